/** Terms 3 (SHARES, BEST) and promises 16 and 17. */
final class LongRunEdges {
    private static final int NEW = 0, MOVING = 1, MEAN = 2;

    private LongRunEdges() {
    }

    private static void fraction(GuardCells x, int[] rates, int what, long upper, long lower) {
        String name = "lost(0, " + rates[0] + ", " + rates[1] + ", " + rates[2] + ", " + what + ", ";
        Due.due(name + "0)", x.lost(0, rates[0], rates[1], rates[2], what, 0), upper);
        Due.due(name + "1)", x.lost(0, rates[0], rates[1], rates[2], what, 1), lower);
    }

    private static int[] rates(int a, int b, int c) {
        return new int[] {a, b, c};
    }

    // ---- SHARES

    static void noRates() {
        Sentence.of("Promise 16", "By rates a, b (0 .. 9), c (1 .. 9)");
        // Nothing goes up: the CELL is always empty, SHARE 0 is all.
        int[][] newOnes = {{0, 0, 1}, {5, 1, 2}, {10, 1, 1}};
        for (int[] due : newOnes) {
            GuardCells x = Due.told("c1 " + due[0] + " 0;");
            fraction(x, rates(0, 0, 1), NEW, due[1], due[2]);
            fraction(x, rates(0, 0, 9), MOVING, 0, 1);
            fraction(x, rates(0, 0, 1), MEAN, 0, 1);
        }
    }

    static void ratesAtBothEnds() {
        Sentence.of("Promise 16", "a, b (0 .. 9), c (1 .. 9)");
        GuardCells x = Due.told("c1 0 0;");
        fraction(x, rates(9, 0, 1), MOVING, 9, 10);
        fraction(x, rates(0, 9, 1), MOVING, 9, 10);
        fraction(x, rates(9, 9, 1), MOVING, 18, 19);
        fraction(x, rates(9, 9, 9), MOVING, 2, 3);
        fraction(x, rates(1, 0, 9), MOVING, 1, 10);
        fraction(x, rates(9, 0, 9), NEW, 1, 2);
        fraction(x, rates(9, 9, 9), MEAN, 2, 3);
        int[][] wrong = {{-1, 1, 1}, {10, 1, 1}, {1, -1, 1}, {1, 10, 1}, {1, 1, 0}, {1, 1, 10}, {1, 1, -1}};
        for (int[] w : wrong) {
            fraction(x, w, NEW, GuardCells.BAD, GuardCells.BAD);
        }
    }

    static void guardHoldsNewOnesBack() {
        Sentence.of("Terms 3", "with k CHANNELS BUSY it goes up by a times CHANCE by 10, and b (not with all BUSY), "
                + "down by k times c.");
        // GUARD 15 of 2: CHANCE is 5, 0, 0; up 3 times 5 by 10 and 2, then 2; down 1, then 2: SHARES 2, 7, 7 by 16.
        GuardCells x = Due.told("c2 15 0;");
        fraction(x, rates(3, 2, 1), MOVING, 7, 16);
        fraction(x, rates(3, 2, 1), MEAN, 21, 16);
        fraction(x, rates(3, 2, 1), NEW, 15, 16);
        // All is held back: new ones never come, moving ones do.
        GuardCells y = Due.told("c1 10 0;");
        fraction(y, rates(9, 0, 1), MOVING, 0, 1);
        fraction(y, rates(9, 1, 1), MOVING, 1, 2);
    }

    static void allBusy() {
        Sentence.of("Terms 3", "MOVING ones LOST: the SHARE of all BUSY");
        // Six CHANNELS, up 1, down k: SHARES go as 1 by k factorial; 720 times them: 720 720 360 120 30 6 1.
        GuardCells x = Due.told("c6 0 0;");
        fraction(x, rates(0, 1, 1), MOVING, 1, 1957);
        fraction(x, rates(1, 0, 1), MOVING, 1, 1957);
        fraction(x, rates(1, 0, 1), NEW, 1, 1957);
        fraction(x, rates(1, 0, 1), MEAN, 1956, 1957);
    }

    static void newOnesLost() {
        Sentence.of("Terms 3", "NEW ones LOST: of SHARES, each times 10 less CHANCE by 10, all together");
        // One CHANNEL, GUARD 5: up 1 by 2, SHARES 2 by 3 and 1 by 3; half of the one and all of the other are LOST.
        GuardCells x = Due.told("c1 5 0;");
        fraction(x, rates(1, 0, 1), NEW, 2, 3);
        GuardCells y = Due.told("c1 10 0;");
        fraction(y, rates(9, 9, 9), NEW, 1, 1);
        // The CELL alone: which CALLS are in it does not count, the GUARD that it has now does.
        GuardCells z = Due.told("c1 0 0;");
        z.offers(0, 50);
        fraction(z, rates(1, 0, 1), NEW, 1, 2);
        z.guards(0, 5);
        fraction(z, rates(1, 0, 1), NEW, 2, 3);
    }

    static void mean() {
        Sentence.of("Terms 3", "MEAN: SHARES times k, all together");
        GuardCells x = Due.told("c2 0 0;");
        // SHARES 1, 9, 81 by 2: 2, 18, 81 of 101.
        fraction(x, rates(9, 0, 1), MEAN, 180, 101);
        fraction(x, rates(0, 9, 1), MEAN, 180, 101);
    }

    static void leastTerms() {
        Sentence.of("Promise 16", "upper (part 0), lower number (1), in least terms");
        GuardCells x = Due.told("c6 60 0;");
        fraction(x, rates(9, 0, 1), NEW, 1, 1);
        fraction(x, rates(9, 0, 1), MOVING, 0, 1);
        fraction(x, rates(9, 0, 1), MEAN, 0, 1);
        // Up 1 by 10, down 1: 1 and 10 have nothing in common.
        fraction(Due.told("c1 9 0;"), rates(1, 0, 1), MOVING, 1, 11);
        // Up 9, down k: SHARES go as 9 to the k by k factorial; 720 times them:
        GuardCells y = Due.told("c6 0 0;");
        long[] weights = {720, 6480, 29160, 87480, 196830, 354294, 531441};
        long all = 0;
        for (long weight : weights) {
            all += weight;
        }
        Due.due("the sum", all, 1206405);
        // 531441 is 9 times 59049, 1206405 is 9 times 134045, which 3 does not divide.
        fraction(y, rates(9, 0, 1), MOVING, 59049, 134045);
    }

    static void lostBad() {
        Sentence.of("Promise 16", "BAD.");
        GuardCells x = Due.told("c2 0 0;");
        for (int cell : new int[] {Integer.MIN_VALUE, -1, 1, 4, Integer.MAX_VALUE}) {
            Due.due("CELL " + cell, x.lost(cell, 1, 1, 1, 0, 0), GuardCells.BAD);
        }
        for (int what : new int[] {Integer.MIN_VALUE, -1, 3, Integer.MAX_VALUE}) {
            Due.due("what " + what, x.lost(0, 1, 1, 1, what, 0), GuardCells.BAD);
        }
        for (int part : new int[] {Integer.MIN_VALUE, -1, 2, Integer.MAX_VALUE}) {
            Due.due("part " + part, x.lost(0, 1, 1, 1, 0, part), GuardCells.BAD);
        }
        Due.due("no CELLS", new GuardCells().lost(0, 1, 1, 1, 0, 0), GuardCells.BAD);
    }

    // ---- BEST

    static void atMostOnce() {
        Sentence.of("Terms 3", "BEST: the least GUARD by which MOVING ones are LOST at most once in n.");
        // One CHANNEL: up u, down c, u by u and c are LOST; GUARD g makes u a tenth of a less for each.
        GuardCells x = Due.told("c1 0 0;");
        Due.due("1 in 2, just so", x.best(0, 1, 0, 1, 2), 0);
        Due.due("1 in 2 by the last GUARD", x.best(0, 1, 1, 1, 2), 10);
        Due.due("1 in 3 by none", x.best(0, 1, 1, 1, 3), GuardCells.NONE);
        Due.due("1 in 10, just so", x.best(0, 1, 0, 9, 10), 0);
        Due.due("1 in 11 by one tenth", x.best(0, 1, 0, 9, 11), 1);
        Due.due("1 in 91, just so by nine tenths", x.best(0, 1, 0, 9, 91), 9);
        Due.due("1 in 92", x.best(0, 1, 0, 9, 92), 10);
    }

    static void bestForN() {
        Sentence.of("Promise 17", "BEST for n (1 .. 1000); NONE.");
        GuardCells x = Due.told("c1 7 0;c6 0 0;");
        Due.due("1: always", x.best(0, 9, 9, 1, 1), 0);
        Due.due("1000: by none", x.best(0, 9, 9, 1, 1000), GuardCells.NONE);
        Due.due("1000, no moving ones: by all", x.best(0, 9, 0, 1, 1000), 10);
        Due.due("1000, no rates", x.best(0, 0, 0, 9, 1000), 0);
        // Six CHANNELS, only moving ones of 1 by 1: 1 by 1957 is less than once in 1000, whatever GUARD is.
        Due.due("1000 of six", x.best(1, 0, 1, 1, 1000), 0);
        for (int n : new int[] {Integer.MIN_VALUE, -1, 0, 1001, Integer.MAX_VALUE}) {
            Due.due("n " + n, x.best(0, 1, 1, 1, n), GuardCells.BAD);
        }
        Due.due("the GUARD that it has does not count", x.best(0, 1, 0, 1, 2), 0);
        Due.due("nor is it changed", x.cell(0, 1), 7);
    }

    static void bestBad() {
        Sentence.of("Promise 17", "BAD.");
        GuardCells x = Due.told("c2 0 0;");
        for (int cell : new int[] {Integer.MIN_VALUE, -1, 1, 4, Integer.MAX_VALUE}) {
            Due.due("CELL " + cell, x.best(cell, 1, 1, 1, 5), GuardCells.BAD);
        }
        int[][] wrong = {{-1, 1, 1}, {10, 1, 1}, {1, -1, 1}, {1, 10, 1}, {1, 1, 0}, {1, 1, 10}, {1, 1, -1}};
        for (int[] w : wrong) {
            Due.due("rates", x.best(0, w[0], w[1], w[2], 5), GuardCells.BAD);
        }
        Due.due("no CELLS", new GuardCells().best(0, 1, 1, 1, 5), GuardCells.BAD);
    }
}
