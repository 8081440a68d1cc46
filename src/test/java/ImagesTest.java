/** Promises 21 to 23: keep, back, count. */
public final class ImagesTest {
    public static void main(String[] args) {
        refused();
        keepsAll();
        keepsWhoWaitedLonger();
        keepsPairs();
        keepsNothingElse();
        keptThroughUndo();
        counts();
        Due.close();
    }

    private static void refused() {
        GuardCells x = Due.told("c3 0 0;");
        Due.due("keep(-1)", x.keep(-1), GuardCells.BAD);
        Due.due("keep(2)", x.keep(2), GuardCells.BAD);
        Due.due("back(-1)", x.back(-1), GuardCells.BAD);
        Due.due("back(2)", x.back(2), GuardCells.BAD);
        Due.due("back(0)", x.back(0), GuardCells.STATE);
        x.offers(0, 5);
        Due.due("keep(1)", x.keep(1), 1);
        Due.due("back(0)", x.back(0), GuardCells.STATE);
        Due.due("refused, it can be UNDONE", x.count(10), 1);
        Due.due("back(1)", x.back(1), 1);
        Due.due("nothing can be UNDONE", x.undo(), GuardCells.STATE);
    }

    private static GuardCells town() {
        GuardCells x = Due.told("c3 5 0;c1 0 2;k1;h0;d1;m10;");
        x.seeds(12);
        x.offers(0, 50);
        x.hears(0, 20, 90, 0, 0);
        x.offers(0, 50);
        x.offers(0, 50);
        x.hears(1, 40, 90, 0, 0);
        x.hears(2, 40, 90, 0, 0);
        x.guards(0, 8);
        return x;
    }

    private static void keepsAll() {
        GuardCells x = town();
        Due.due("keep(0)", x.keep(0), 3);
        Due.due("keep() is no deed and forgets none", x.count(10), 6);
        x.undo();
        Due.due("undo() goes on behind keep()", x.count(10), 5);
        x.back(0);
        x.guards(0, 2);
        x.ends(0);
        x.offers(0, 70);
        x.hears(0, 5, 80, 0, 0);
        x.hears(1, 99, 0, 0, 0);
        x.seeds(1);
        Due.due("keep(1)", x.keep(1), 3);
        x.ends(1);
        x.back(1);
        Due.due("the other IMAGE", x.cell(0, 1), 2);
        Due.due("the first", x.back(0), 3);
        Seen.same("the first", Seen.allButUndone(x), Seen.allButUndone(town()));
        x.ends(2);
        Due.due("an IMAGE is kept anew", x.keep(0), 2);
        x.offers(0, 9);
        Due.due("back(0)", x.back(0), 2);
    }

    private static void keepsWhoWaitedLonger() {
        GuardCells x = Due.told("c4 0 0;c1 0 2;k0;h0;d1;m10;");
        x.offers(0, 50);
        x.offers(0, 50);
        x.offers(1, 50);
        x.hears(1, 50, 60, 0, 0);
        x.hears(0, 50, 60, 0, 0);
        x.keep(0);
        x.hears(1, 50, 10, 0, 0);
        x.hears(1, 50, 60, 0, 0);
        Due.due("WAITS anew, behind", x.queued(1, 0), 0);
        Due.due("undo()", x.undo(), 6 - 1);
        Due.due("undo()", x.undo(), 4);
        Due.due("as long as ahead of it", x.queued(1, 0), 1);
        x.hears(1, 50, 10, 0, 0);
        x.hears(1, 50, 60, 0, 0);
        x.back(0);
        Due.due("as long as the IMAGE has it", x.queued(1, 0), 1);
        Due.due("the other", x.queued(1, 1), 0);
    }

    private static void keepsPairs() {
        GuardCells x = Due.told("c1 0 0;c1 0 0;c1 0 0;k0;h5;d1;");
        x.keep(1);
        x.offers(0, 50);
        x.hears(0, 40, 60, 0, 0);
        x.keep(0);
        x.back(1);
        x.offers(0, 50);
        x.hears(0, 40, 10, 60, 0);
        x.hears(0, 40, 60, 10, 0);
        Due.due("PAIRS", x.count(11), 2);
        x.back(0);
        Due.due("PAIRS", x.count(11), 1);
        Due.due("from", x.pair(0, 0), 0);
        Due.due("to", x.pair(0, 1), 1);
        x.back(1);
        x.offers(1, 50);
        x.hears(0, 10, 40, 60, 0);
        x.back(0);
        Due.due("from", x.pair(0, 0), 0);
        Due.due("to", x.pair(0, 1), 1);
    }

    private static void keepsNothingElse() {
        GuardCells x = town();
        x.sees(1, 1);
        x.type('h');
        x.keep(0);
        x.sees(2, 1);
        x.type('3');
        x.back(0);
        Due.due("SEEN stays", x.count(8), 2);
        Due.due("THE TEXT stays", x.count(9), 2);
        x.type(';');
        Due.due("tells()", x.tells(), 1);
        Due.due("IMAGES are gone", x.back(0), GuardCells.STATE);
    }

    private static void keptThroughUndo() {
        GuardCells x = Due.told("c3 0 0;");
        x.offers(0, 5);
        x.keep(0);
        x.undo();
        Due.due("an IMAGE is not undone", x.back(0), 1);
    }

    private static void counts() {
        GuardCells x = town();
        x.sees(3, 0);
        x.type('c');
        x.type('c');
        int[] due = {2, 3, 0, 1, 1, 10, 3, 12, 1, 2, 6, 1};
        for (int what = 0; what < due.length; what++) {
            Due.due("count(" + what + ")", x.count(what), due[what]);
        }
        Due.due("count(-1)", x.count(-1), GuardCells.NO);
        Due.due("count(12)", x.count(12), GuardCells.NO);
        Due.due("count(least)", x.count(Integer.MIN_VALUE), GuardCells.NO);
    }
}
