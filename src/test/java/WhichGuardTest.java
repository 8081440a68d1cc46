/** Promises 18 to 20: sees, forget, unseen. */
public final class WhichGuardTest {
    public static void main(String[] args) {
        sees();
        forgets();
        unseen();
        unseenByOne();
        Due.close();
    }

    private static void sees() {
        GuardCells x = new GuardCells();
        Due.due("sees(-1, 0)", x.sees(-1, 0), GuardCells.BAD);
        Due.due("sees(7, 0)", x.sees(7, 0), GuardCells.BAD);
        Due.due("sees(0, -1)", x.sees(0, -1), GuardCells.BAD);
        Due.due("sees(0, 2)", x.sees(0, 2), GuardCells.BAD);
        for (int i = 1; i <= 6; i++) {
            Due.due("sees(" + i + ", 1)", x.sees(i, 1), i);
        }
        Due.due("a seventh", x.sees(0, 0), GuardCells.FULL);
        Due.due("a seventh that is BAD", x.sees(7, 0), GuardCells.BAD);
        Due.due("count(8)", x.count(8), 6);
        Due.due("no deed", x.count(10), 0);
    }

    private static void forgets() {
        GuardCells x = Due.told("c1 0 0;");
        x.sees(0, 1);
        x.sees(0, 0);
        Due.due("nothing could be", x.unseen(0, 0), 0);
        Due.due("forget()", x.forget(), 2);
        Due.due("forget() again", x.forget(), 0);
        Due.due("count(8)", x.count(8), 0);
        Due.due("all could be", x.unseen(0, 0), 11);
        Due.due("sees(1, 1)", x.sees(1, 1), 1);
    }

    private static void all(GuardCells x, int cell, int many, int least, int greatest) {
        Due.due("unseen(" + cell + ", 0)", x.unseen(cell, 0), many);
        Due.due("unseen(" + cell + ", 1)", x.unseen(cell, 1), least);
        Due.due("unseen(" + cell + ", 2)", x.unseen(cell, 2), greatest);
    }

    private static void unseen() {
        GuardCells x = Due.told("c6 7 0;c2 0 0;");
        Due.due("unseen(2, 0)", x.unseen(2, 0), GuardCells.BAD);
        Due.due("unseen(-1, 0)", x.unseen(-1, 0), GuardCells.BAD);
        Due.due("unseen(0, 3)", x.unseen(0, 3), GuardCells.BAD);
        Due.due("unseen(0, -1)", x.unseen(0, -1), GuardCells.BAD);
        all(x, 0, 61, 0, 60);
        all(x, 1, 21, 0, 20);
        x.sees(0, 0);
        all(x, 0, 61, 0, 60);
        x.sees(6, 1);
        all(x, 0, 60, 0, 59);
        all(x, 1, 21, 0, 20);
        x.sees(2, 0);
        all(x, 0, 49, 11, 59);
        all(x, 1, 10, 11, 20);
        x.sees(3, 0);
        all(x, 0, 39, 21, 59);
        all(x, 1, 0, GuardCells.NONE, GuardCells.NONE);
        x.sees(3, 1);
        all(x, 0, 9, 21, 29);
        x.sees(0, 1);
        all(x, 0, 0, GuardCells.NONE, GuardCells.NONE);
    }

    private static void unseenByOne() {
        GuardCells x = Due.told("c4 0 0;");
        for (int f = 1; f <= 4; f++) {
            x.forget();
            x.sees(f, 1);
            all(x, 0, 10 * f, 0, 10 * f - 1);
            x.forget();
            x.sees(f, 0);
            all(x, 0, 50 - 10 * f, 10 * f - 9, 40);
        }
        for (int f = 5; f <= 6; f++) {
            x.forget();
            x.sees(f, 1);
            all(x, 0, 41, 0, 40);
        }
        x.forget();
        x.sees(5, 0);
        all(x, 0, 0, GuardCells.NONE, GuardCells.NONE);
    }
}
