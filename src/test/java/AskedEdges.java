/** Promises 11 to 15 and 23: what may be asked, and what not. */
final class AskedEdges {
    private static final int LEAST = Integer.MIN_VALUE, MOST = Integer.MAX_VALUE;

    private AskedEdges() {
    }

    /** CALL 0 MOVED to 1, CALL 1 WAITS for 1, CALL 2 was TURNED away there, CALL 3 DROPPED, one not TAKEN. */
    private static GuardCells town() {
        GuardCells x = Due.told("c4 12 3;c1 0 1;c2 0 0;k1;h0;d1;m10;w3;");
        x.offers(0, 50);
        x.offers(0, 50);
        x.offers(2, 50);
        x.offers(2, 12);
        x.offers(2, 12);
        x.hears(0, 40, 95, 0, 0);
        x.hears(0, 30, 95, 0, 0);
        x.hears(1, 40, 99, 0, 0);
        x.hears(2, 0, 99, 20, 0);
        x.hears(3, 0, 0, 0, 0);
        return x;
    }

    // ---- cell

    static void cellAnswers() {
        Sentence.of("Promise 11", "0 CHANNELS, 1 GUARD, 2 PLACES, 3 BUSY, 4 how many WAIT for it, 5 CHANCE");
        GuardCells x = town();
        int[][] due = {{4, 12, 3, 1, 0, 10}, {1, 0, 1, 1, 1, 0}, {2, 0, 0, 1, 0, 10}};
        for (int cell = 0; cell < due.length; cell++) {
            for (int what = 0; what < due[cell].length; what++) {
                Due.due("cell(" + cell + ", " + what + ")", x.cell(cell, what), due[cell][what]);
            }
        }
    }

    static void cellCounts() {
        Sentence.of("Promise 11", "6 OFFERED to it, 7 TAKEN, 8 that ASKED to go there, 9 were TURNED away there, "
                + "10 MOVED there, 11 were DROPPED in it.");
        GuardCells x = town();
        int[][] due = {{2, 2, 0, 0, 0, 0}, {0, 0, 3, 1, 1, 0}, {3, 2, 0, 0, 0, 1}};
        for (int cell = 0; cell < due.length; cell++) {
            for (int i = 0; i < due[cell].length; i++) {
                Due.due("cell(" + cell + ", " + (6 + i) + ")", x.cell(cell, 6 + i), due[cell][i]);
            }
        }
        x.ends(0);
        Due.due("who is served MOVED there, too", x.cell(1, 10), 2);
        Due.due("but did not ask again", x.cell(1, 8), 3);
    }

    static void cellBad() {
        Sentence.of("Promise 11", "BAD.");
        GuardCells x = town();
        for (int cell : new int[] {LEAST, -1, 3, 4, MOST}) {
            Due.due("cell(" + cell + ", 0)", x.cell(cell, 0), GuardCells.BAD);
        }
        for (int what : new int[] {LEAST, -1, 12, 13, MOST}) {
            Due.due("cell(0, " + what + ")", x.cell(0, what), GuardCells.BAD);
        }
        Due.due("no CELLS", new GuardCells().cell(0, 0), GuardCells.BAD);
        GuardCells y = Due.told("c1 0 0;c1 0 0;c1 0 0;c1 0 0;");
        Due.due("the last of four", y.cell(3, 0), 1);
        Due.due("a fifth", y.cell(4, 0), GuardCells.BAD);
    }

    // ---- call

    static void callAnswers() {
        Sentence.of("Promise 12", "0 its OWN CELL, 1 for which it WAITS (NONE), 2 how often it was HEARD, 3 MOVED");
        GuardCells x = town();
        int[][] due = {{1, GuardCells.NONE, 2, 1}, {0, 1, 1, 0}, {2, GuardCells.NONE, 1, 0}};
        for (int call = 0; call < due.length; call++) {
            for (int what = 0; what < due[call].length; what++) {
                Due.due("call(" + call + ", " + what + ")", x.call(call, what), due[call][what]);
            }
        }
    }

    static void callFrom() {
        Sentence.of("Promise 12", "4 how many of these were RETURNS, 5 FALL, 6 from where it MOVED last (NONE)");
        GuardCells x = town();
        int[][] due = {{0, -1520, 0}, {0, 320, GuardCells.NONE}, {0, 960, GuardCells.NONE}};
        for (int call = 0; call < due.length; call++) {
            for (int i = 0; i < due[call].length; i++) {
                Due.due("call(" + call + ", " + (4 + i) + ")", x.call(call, 4 + i), due[call][i]);
            }
        }
        x.hears(0, 100, 0, 0, 0);
        Due.due("a RETURN", x.call(0, 4), 1);
        Due.due("from where", x.call(0, 6), 1);
    }

    static void callNo() {
        Sentence.of("Promise 12", "NO: BAD.");
        GuardCells x = town();
        // CALL 3 was DROPPED, CALL 4 never was.
        for (int call : new int[] {LEAST, -1, 3, 4, 11, 12, MOST}) {
            Due.due("call(" + call + ", 0)", x.call(call, 0), GuardCells.NO);
        }
        for (int what : new int[] {LEAST, -1, 7, 8, MOST}) {
            Due.due("call(0, " + what + ")", x.call(0, what), GuardCells.NO);
        }
        // A FALL may be as BAD is: only NO can't be one.
        GuardCells y = Due.told("c1 0 0;k3;m0;");
        y.offers(0, 0);
        for (int i = 0; i < 13; i++) {
            y.hears(0, 1, 0, 0, 0);
        }
        Due.due("LEVEL", y.level(0, 0, 0), 50);
        Due.due("FALL", y.call(0, 5), -1);
    }

    // ---- level

    static void levelAnswers() {
        Sentence.of("Promise 13", "LEVEL of a CALL by a CELL (way 0), STREAK (1).");
        GuardCells x = town();
        int[][] levels = {{2400, 4560, 0}, {2880, 3168, 0}, {0, 3168, 2240}};
        int[][] streaks = {{0, 0, 0}, {0, 1, 0}, {0, 1, 0}};
        for (int call = 0; call < 3; call++) {
            for (int cell = 0; cell < 3; cell++) {
                Due.due("level(" + call + ", " + cell + ", 0)", x.level(call, cell, 0), levels[call][cell]);
                Due.due("level(" + call + ", " + cell + ", 1)", x.level(call, cell, 1), streaks[call][cell]);
            }
        }
    }

    static void levelBad() {
        Sentence.of("Promise 13", "BAD.");
        GuardCells x = town();
        for (int call : new int[] {LEAST, -1, 3, 11, 12, MOST}) {
            Due.due("level(" + call + ", 0, 0)", x.level(call, 0, 0), GuardCells.BAD);
        }
        for (int cell : new int[] {LEAST, -1, 3, 4, MOST}) {
            Due.due("level(0, " + cell + ", 0)", x.level(0, cell, 0), GuardCells.BAD);
        }
        for (int way : new int[] {LEAST, -1, 2, MOST}) {
            Due.due("level(0, 0, " + way + ")", x.level(0, 0, way), GuardCells.BAD);
        }
    }

    // ---- queued

    static void queuedAnswers() {
        Sentence.of("Promise 14", "The i-th CALL (0 on) that WAITS for a CELL, the first first; NONE.");
        GuardCells x = Due.told("c6 0 0;c1 0 4;k0;h0;d1;");
        for (int call = 0; call < 5; call++) {
            x.offers(0, 50);
        }
        x.offers(1, 50);
        Due.due("empty", x.queued(1, 0), GuardCells.NONE);
        for (int call = 4; call >= 1; call--) {
            x.hears(call, 50, 60, 0, 0);
        }
        for (int i = 0; i < 4; i++) {
            Due.due("queued(1, " + i + ")", x.queued(1, i), 4 - i);
        }
        for (int i : new int[] {4, 5, 11, 12, MOST}) {
            Due.due("queued(1, " + i + ")", x.queued(1, i), GuardCells.NONE);
        }
        Due.due("of another", x.queued(0, 0), GuardCells.NONE);
    }

    static void queuedBad() {
        Sentence.of("Promise 14", "BAD.");
        GuardCells x = town();
        for (int cell : new int[] {LEAST, -1, 3, 4, MOST}) {
            Due.due("queued(" + cell + ", 0)", x.queued(cell, 0), GuardCells.BAD);
        }
        Due.due("queued(1, -1)", x.queued(1, -1), GuardCells.BAD);
        Due.due("queued(1, least)", x.queued(1, LEAST), GuardCells.BAD);
    }

    // ---- pair

    static void pairAnswers() {
        Sentence.of("Promise 15", "The i-th of PAIRS (0 on): 0 from, 1 to, 2 how many MOVED so; NONE.");
        GuardCells x = town();
        int[] due = {0, 1, 1};
        for (int what = 0; what < 3; what++) {
            Due.due("pair(0, " + what + ")", x.pair(0, what), due[what]);
            for (int i : new int[] {1, 11, 12, 13, MOST}) {
                Due.due("pair(" + i + ", " + what + ")", x.pair(i, what), GuardCells.NONE);
            }
        }
        Due.due("no CELLS", new GuardCells().pair(0, 0), GuardCells.NONE);
        for (int i = 0; i < 5; i++) {
            x.undo();
        }
        Due.due("UNDONE", x.pair(0, 0), GuardCells.NONE);
    }

    static void pairBad() {
        Sentence.of("Promise 15", "BAD.");
        GuardCells x = town();
        Due.due("pair(-1, 0)", x.pair(-1, 0), GuardCells.BAD);
        Due.due("pair(least, 0)", x.pair(LEAST, 0), GuardCells.BAD);
        for (int what : new int[] {LEAST, -1, 3, MOST}) {
            Due.due("pair(0, " + what + ")", x.pair(0, what), GuardCells.BAD);
            Due.due("pair(1, " + what + "), which there is not", x.pair(1, what), GuardCells.BAD);
        }
    }

    // ---- count

    static void countAnswers() {
        Sentence.of("Promise 23", "0 CELLS, 1 CALLS, 2 HYSTERESIS, 3 DWELL, 4 FILTER, 5 NEED, 6 WINDOW, 7 THE SEED, 8 SEEN, "
                + "9 letters of THE TEXT, 10 how many may be UNDONE, 11 PAIRS.");
        GuardCells x = town();
        x.seeds(-5);
        x.sees(1, 1);
        x.sees(1, 1);
        Due.type(x, "x1 ;");
        int[] due = {3, 3, 0, 1, 1, 10, 3, -5, 2, 4, 6, 1};
        for (int what = 0; what < due.length; what++) {
            Due.due("count(" + what + ")", x.count(what), due[what]);
        }
    }

    static void countAtItsEnds() {
        Sentence.of("Promise 23", "8 SEEN, 9 letters of THE TEXT, 10 how many may be UNDONE");
        GuardCells x = Due.told("c6 0 0;c6 0 0;");
        for (int i = 0; i < 13; i++) {
            x.offers(i / 6, 50);
            x.sees(1, 1);
        }
        Due.type(x, " ".repeat(130));
        Due.due("CALLS", x.count(1), 12);
        Due.due("SEEN", x.count(8), 6);
        Due.due("letters", x.count(9), 120);
        Due.due("UNDONE", x.count(10), 6);
        x.forget();
        x.clear();
        for (int i = 0; i < 7; i++) {
            x.undo();
        }
        Due.due("SEEN", x.count(8), 0);
        Due.due("letters", x.count(9), 0);
        Due.due("UNDONE", x.count(10), 0);
        Due.due("CALLS", x.count(1), 6);
    }

    static void countNo() {
        Sentence.of("Promise 23", "NO: BAD.");
        GuardCells x = town();
        for (int what : new int[] {LEAST, -1, 12, 13, MOST}) {
            Due.due("count(" + what + ")", x.count(what), GuardCells.NO);
        }
    }
}
