/** Terms 3 (SEEN, UNSEEN) and promises 18 to 20. */
final class SeenEdges {
    private SeenEdges() {
    }

    private static void unseen(GuardCells x, int cell, int many, int least, int greatest) {
        Due.due("unseen(" + cell + ", 0)", x.unseen(cell, 0), many);
        Due.due("unseen(" + cell + ", 1)", x.unseen(cell, 1), least);
        Due.due("unseen(" + cell + ", 2)", x.unseen(cell, 2), greatest);
    }

    private static GuardCells seen(String text, int... all) {
        GuardCells x = Due.told(text);
        for (int i = 0; i < all.length; i += 2) {
            x.sees(all[i], all[i + 1]);
        }
        return x;
    }

    static void sixAtMost() {
        Sentence.of("Terms 3", "SEEN (6 at most)");
        GuardCells x = Due.told("c6 0 0;");
        for (int many = 1; many <= 6; many++) {
            Due.due("sees()", x.sees(6, 1), many);
        }
        Due.due("a seventh", x.sees(1, 0), GuardCells.FULL);
        Due.due("SEEN", x.count(8), 6);
        unseen(x, 0, 60, 0, 59);
    }

    static void moreThanACellHas() {
        Sentence.of("Terms 3", "with f FREE ones (be that more than a CELL has) a new call was TAKEN, or not");
        // With 2 FREE ones a CELL of one takes all, whatever its GUARD: 20 less 10 at most.
        unseen(seen("c1 0 0;", 2, 1), 0, 11, 0, 10);
        unseen(seen("c1 0 0;", 2, 0), 0, 0, GuardCells.NONE, GuardCells.NONE);
        unseen(seen("c1 0 0;", 6, 1), 0, 11, 0, 10);
        unseen(seen("c1 0 0;", 6, 0), 0, 0, GuardCells.NONE, GuardCells.NONE);
    }

    static void chanceAboveZero() {
        Sentence.of("Terms 3", "(by CHANCE above 0, below 10)");
        // TAKEN with 1 FREE: GUARD 9 makes CHANCE 1, GUARD 10 makes it 0.
        unseen(seen("c2 0 0;", 1, 1), 0, 10, 0, 9);
        // Not TAKEN with 1 FREE: GUARD 0 makes CHANCE 10, GUARD 1 makes it 9.
        unseen(seen("c2 0 0;", 1, 0), 0, 20, 1, 20);
        // Both: by CHANCE 1 to 9.
        unseen(seen("c2 0 0;", 1, 0, 1, 1), 0, 9, 1, 9);
        unseen(seen("c6 0 0;", 6, 1), 0, 60, 0, 59);
        unseen(seen("c6 0 0;", 6, 0), 0, 10, 51, 60);
    }

    static void noneFree() {
        Sentence.of("Terms 3", "all that was SEEN could be");
        unseen(seen("c2 0 0;", 0, 0), 0, 21, 0, 20);
        unseen(seen("c2 0 0;", 0, 1), 0, 0, GuardCells.NONE, GuardCells.NONE);
        // All that was SEEN, the first as well as the sixth.
        unseen(seen("c2 0 0;", 1, 0, 0, 0, 0, 0, 0, 0, 0, 0, 1, 1), 0, 9, 1, 9);
        unseen(seen("c2 0 0;", 2, 1, 1, 0), 0, 19, 1, 19);
        unseen(seen("c2 0 0;", 1, 1, 2, 0), 0, 0, GuardCells.NONE, GuardCells.NONE);
    }

    static void guardsItCouldHave() {
        Sentence.of("Terms 3", "UNSEEN of a CELL: GUARDS that it could have");
        for (int channels = 1; channels <= 6; channels++) {
            unseen(Due.told("c" + channels + " 3 0;"), 0, 10 * channels + 1, 0, 10 * channels);
        }
    }

    static void seesAnswers() {
        Sentence.of("Promise 18", "SEEN (f 0 .. 6; taken 1, 0): how much there is.");
        GuardCells x = new GuardCells();
        int[][] good = {{0, 0}, {0, 1}, {6, 0}, {6, 1}};
        for (int i = 0; i < good.length; i++) {
            Due.due("sees(" + good[i][0] + ", " + good[i][1] + ")", x.sees(good[i][0], good[i][1]), i + 1);
        }
        for (int f : new int[] {Integer.MIN_VALUE, -1, 7, Integer.MAX_VALUE}) {
            Due.due("sees(" + f + ", 1)", x.sees(f, 1), GuardCells.BAD);
        }
        for (int taken : new int[] {Integer.MIN_VALUE, -1, 2, Integer.MAX_VALUE}) {
            Due.due("sees(1, " + taken + ")", x.sees(1, taken), GuardCells.BAD);
        }
        Due.due("SEEN", x.count(8), 4);
    }

    static void seesFull() {
        Sentence.of("Promise 18", "FULL: 6.");
        GuardCells x = seen("c2 0 0;", 0, 0, 0, 0, 0, 0, 0, 0, 0, 0);
        Due.due("a sixth", x.sees(0, 0), 6);
        Due.due("a seventh", x.sees(0, 1), GuardCells.FULL);
        unseen(x, 0, 21, 0, 20);
        x.forget();
        Due.due("room again", x.sees(0, 1), 1);
    }

    static void forgetAnswers() {
        Sentence.of("Promise 19", "Nothing is SEEN: how much was.");
        GuardCells x = Due.told("c1 0 0;");
        for (int many = 0; many <= 6; many++) {
            for (int i = 0; i < many; i++) {
                x.sees(0, 1);
            }
            Due.due("forget() of " + many, x.forget(), many);
            Due.due("SEEN", x.count(8), 0);
            unseen(x, 0, 11, 0, 10);
        }
    }

    static void unseenAnswers() {
        Sentence.of("Promise 20", "how many GUARDS (what = 0), the least (1), the greatest (2); NONE.");
        GuardCells x = seen("c1 0 0;c3 30 0;", 3, 0);
        unseen(x, 0, 0, GuardCells.NONE, GuardCells.NONE);
        unseen(x, 1, 10, 21, 30);
        // 11 at least by the one, 9 at most by the other.
        unseen(seen("c3 0 0;", 2, 0, 1, 1), 0, 0, GuardCells.NONE, GuardCells.NONE);
        unseen(seen("c3 0 0;", 2, 0, 2, 1), 0, 9, 11, 19);
    }

    static void unseenBad() {
        Sentence.of("Promise 20", "BAD.");
        GuardCells x = seen("c1 0 0;", 0, 1);
        for (int cell : new int[] {Integer.MIN_VALUE, -1, 1, 4, Integer.MAX_VALUE}) {
            Due.due("unseen(" + cell + ", 1)", x.unseen(cell, 1), GuardCells.BAD);
        }
        for (int what : new int[] {Integer.MIN_VALUE, -1, 3, Integer.MAX_VALUE}) {
            Due.due("unseen(0, " + what + ")", x.unseen(0, what), GuardCells.BAD);
        }
        Due.due("no CELLS", new GuardCells().unseen(0, 0), GuardCells.BAD);
    }
}
