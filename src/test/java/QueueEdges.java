/** Terms 2 (FREED, who is first, PAIRS) and promise 7. */
final class QueueEdges {
    private static final int WAITS = 2;

    private QueueEdges() {
    }

    /** CELL 1 has one CHANNEL, BUSY by the last CALL; as many CALLS as there are values were OFFERED to CELL 0. */
    private static GuardCells town(String need, int... values) {
        GuardCells x = Due.told("c6 0 0;c1 0 4;k0;h0;d1;m" + need + ";");
        for (int value : values) {
            x.offers(0, value);
        }
        x.offers(1, 50);
        return x;
    }

    private static void asks(GuardCells x, int call, int own) {
        Due.due("CALL " + call + " WAITS", x.hears(call, own, 100, 0, 0), WAITS);
    }

    private static void order(GuardCells x, int... calls) {
        for (int i = 0; i < calls.length; i++) {
            Due.due("queued(1, " + i + ")", x.queued(1, i), calls[i]);
        }
        Due.due("queued(1, " + calls.length + ")", x.queued(1, calls.length), GuardCells.NONE);
    }

    // ---- who is first

    static void leastIsFirst() {
        Sentence.of("Terms 2", "First: the one whose LEVEL by its OWN CELL less 64 times NEED, by its FALL (not cut), is least");
        // 30 by 10, 20 by 20, 10 by 40, 35 by 5.
        GuardCells x = town("10", 50, 50, 60, 50);
        asks(x, 0, 40);
        asks(x, 1, 30);
        asks(x, 2, 20);
        asks(x, 3, 45);
        order(x, 2, 1, 0, 3);
        Due.due("ends()", x.ends(4), 1);
        Due.due("the first MOVED", x.call(2, 0), 1);
        order(x, 1, 0, 3);
    }

    static void needCounts() {
        Sentence.of("Terms 2", "less 64 times NEED");
        // By NEED 0 40 by 20 is less than 22 by 10; by NEED 20 2 by 10 is less than 20 by 20.
        GuardCells x = town("0", 60, 32);
        asks(x, 0, 40);
        asks(x, 1, 22);
        order(x, 0, 1);
        GuardCells y = town("20", 60, 32);
        asks(y, 0, 40);
        asks(y, 1, 22);
        order(y, 1, 0);
    }

    static void notCut() {
        Sentence.of("Terms 2", "by its FALL (not cut)");
        // 25 by 10 and 21 by 10 are both 2, if cut.
        GuardCells x = town("10", 45, 41);
        asks(x, 0, 35);
        asks(x, 1, 31);
        order(x, 1, 0);
        // 1 by 3 and 1 by 4 are both 0, if cut.
        GuardCells y = town("10", 14, 15);
        asks(y, 0, 11);
        asks(y, 1, 11);
        order(y, 1, 0);
        // The greatest: 89 by 1 and 88 by 1.
        GuardCells z = town("10", 100, 99);
        asks(z, 0, 99);
        asks(z, 1, 98);
        order(z, 1, 0);
    }

    static void justAtNeedIsFirst() {
        Sentence.of("Terms 2", "is least");
        // 0 by 1 is less than 1 by 89.
        GuardCells x = town("10", 100, 11);
        asks(x, 0, 11);
        asks(x, 1, 10);
        order(x, 1, 0);
    }

    static void fallZeroIsBehind() {
        Sentence.of("Terms 2", "(FALL 0 or below 0: behind all others)");
        // CALL 0 is just at NEED, and does not fall; CALL 1 is far from it, and falls.
        GuardCells x = town("10", 10, 100);
        asks(x, 0, 10);
        asks(x, 1, 99);
        Due.due("FALL", x.call(0, 5), 0);
        order(x, 1, 0);
        Due.due("ends()", x.ends(2), 1);
        Due.due("the first MOVED", x.call(1, 0), 1);
    }

    static void fallBelowZeroIsBehind() {
        Sentence.of("Terms 2", "FALL 0 or below 0");
        GuardCells x = town("10", 50, 100);
        asks(x, 0, 60);
        asks(x, 1, 99);
        Due.due("FALL", x.call(0, 5), -640);
        order(x, 1, 0);
        // It rises no more: it falls.
        asks(x, 0, 20);
        order(x, 0, 1);
    }

    /** With FILTER 3 a LEVEL comes down to what is HEARD by less and less: at last by one 64th. */
    static void fallOfOne() {
        Sentence.of("Terms 2", "(FALL 0 or below 0: behind all others)");
        GuardCells x = Due.told("c6 0 0;c1 0 4;k3;h0;d1;m10;");
        x.offers(0, 50);
        x.offers(0, 50);
        x.offers(0, 50);
        x.offers(1, 50);
        for (int i = 0; i < 14; i++) {
            x.hears(1, 50, 100, 0, 0);
        }
        Due.due("FALL", x.call(1, 5), 0);
        for (int i = 0; i < 14; i++) {
            x.hears(0, 49, 100, 0, 0);
        }
        Due.due("LEVEL", x.level(0, 0, 0), 3143);
        Due.due("FALL", x.call(0, 5), 1);
        order(x, 0, 1);
        // 2503 by 1 is more than 2160 by 400.
        for (int i = 0; i < 14; i++) {
            x.hears(2, 50, 100, 0, 0);
        }
        order(x, 0, 1, 2);
        asks(x, 2, 0);
        Due.due("LEVEL", x.level(2, 0, 0), 2800);
        order(x, 2, 0, 1);
    }

    static void thoseBehindByHowLong() {
        Sentence.of("Terms 2", "of several the one that has WAITED there longer");
        // FALL 0, -10, 0, -30: none of them is less than another.
        GuardCells x = town("10", 50, 50, 20, 50);
        asks(x, 3, 80);
        asks(x, 0, 50);
        asks(x, 2, 20);
        asks(x, 1, 60);
        order(x, 3, 0, 2, 1);
    }

    static void sameByHowLong() {
        Sentence.of("Terms 2", "of several the one that has WAITED there longer");
        // 20 by 10, 40 by 20, 10 by 5, 0 by 3 are three of the same and one less.
        GuardCells x = town("10", 40, 70, 25, 13);
        asks(x, 2, 20);
        asks(x, 1, 50);
        asks(x, 0, 30);
        asks(x, 3, 10);
        order(x, 3, 2, 1, 0);
        // 0 by 3 and 0 by 50 are the same, too.
        GuardCells y = town("10", 60, 13);
        asks(y, 1, 10);
        asks(y, 0, 10);
        order(y, 1, 0);
    }

    static void longerThere() {
        Sentence.of("Terms 2", "that has WAITED there longer");
        GuardCells x = Due.told("c6 0 0;c1 0 4;c1 0 4;k0;h0;d1;");
        x.offers(0, 50);
        x.offers(0, 50);
        x.offers(1, 50);
        x.offers(2, 50);
        x.hears(0, 50, 0, 60, 0);
        x.hears(1, 50, 60, 0, 0);
        x.hears(0, 50, 60, 0, 0);
        Due.due("the one that WAITED elsewhere is later", x.queued(1, 0), 1);
        Due.due("second", x.queued(1, 1), 0);
        // Who gives way and comes again WAITS from then on.
        x.hears(1, 50, 0, 0, 0);
        x.hears(1, 50, 60, 0, 0);
        Due.due("who came again is later", x.queued(1, 0), 0);
        // Who WAITS still, HEARD again and again, has WAITED as long.
        x.hears(0, 50, 60, 0, 0);
        Due.due("who WAITS still is not later", x.queued(1, 0), 0);
    }

    // ---- FREED

    static void asLongAsFree() {
        Sentence.of("Terms 2", "as long as a CELL has FREE ones and some WAIT for it");
        GuardCells x = town("10", 50, 50, 50);
        asks(x, 2, 50);
        asks(x, 0, 50);
        asks(x, 1, 50);
        Due.due("one is FREED, one MOVES", x.ends(3), 1);
        Due.due("the first", x.call(2, 0), 1);
        order(x, 0, 1);
        Due.due("the next", x.ends(2), 1);
        order(x, 1);
        Due.due("the last", x.ends(0), 1);
        order(x);
        Due.due("none WAITS", x.ends(1), 0);
        Due.due("none is there", x.cell(1, 3), 0);
    }

    static void freedAgainAndAgain() {
        Sentence.of("Terms 2", "as long as a CELL has FREE ones and some WAIT for it");
        GuardCells x = Due.told("c1 0 1;c1 0 1;c1 0 1;k0;h0;d1;m10;");
        x.offers(1, 50);
        x.offers(2, 50);
        x.hears(1, 0, 60, 50, 0);
        for (int i = 0; i < 20; i++) {
            x.offers(0, 50);
            Due.due("where none WAITS", i % 2 == 0 ? x.ends(2) : x.hears(2, 0, 0, 0, 0) - 4, 0);
        }
        Due.due("where one WAITS", x.ends(0), 1);
        Due.due("OWN CELL", x.call(1, 0), 1);
    }

    static void firstDoesNotWaitAnyMore() {
        Sentence.of("Terms 2", "the first of them does not WAIT any more, and MOVES there");
        GuardCells x = town("10", 50);
        asks(x, 0, 40);
        x.ends(1);
        Due.due("WAITS for", x.call(0, 1), GuardCells.NONE);
        Due.due("OWN CELL", x.call(0, 0), 1);
        Due.due("WAITING", x.cell(1, 4), 0);
        Due.due("MOVED there", x.cell(1, 10), 1);
        Due.due("ASKED once", x.cell(1, 8), 1);
        Due.due("HEARD once", x.call(0, 2), 1);
    }

    /** CELLS of one CHANNEL, each BUSY by the CALL of its number, CALL 1 WAITS for 0, 2 for 1, 3 for 2. */
    private static GuardCells chain() {
        GuardCells x = Due.told("c1 0 1;c1 0 1;c1 0 1;c1 0 1;k0;h0;d1;m10;");
        for (int cell = 0; cell < 4; cell++) {
            x.offers(cell, 50);
        }
        x.hears(1, 60, 50, 0, 0);
        x.hears(2, 0, 60, 50, 0);
        x.hears(3, 0, 0, 60, 50);
        return x;
    }

    static void oneAfterTheOther() {
        Sentence.of("Terms 2", "(CELLS are served so in the order in which they were FREED; "
                + "those that are FREED meanwhile come to the end.)");
        GuardCells x = chain();
        Due.due("ends(0)", x.ends(0), 3);
        int[][] due = {{1, 0}, {2, 1}, {3, 2}};
        for (int i = 0; i < due.length; i++) {
            Due.due("from", x.pair(i, 0), due[i][0]);
            Due.due("to", x.pair(i, 1), due[i][1]);
        }
        // Two CELLS that give to each other: 0 is served, then 1, then 0 again.
        GuardCells y = Due.told("c2 0 4;c2 0 4;k0;h0;d1;m10;");
        for (int call = 0; call < 4; call++) {
            y.offers(call / 2, 50);
        }
        y.hears(2, 60, 50, 0, 0);
        y.hears(3, 60, 50, 0, 0);
        y.hears(1, 50, 60, 0, 0);
        Due.due("ends(0)", y.ends(0), 3);
        Due.due("CALL 1", y.call(1, 0), 1);
        Due.due("CALL 2", y.call(2, 0), 0);
        Due.due("CALL 3", y.call(3, 0), 0);
        Due.due("first from 1 to 0", y.pair(0, 0), 1);
        Due.due("twice", y.pair(0, 2), 2);
        Due.due("then from 0 to 1", y.pair(1, 0), 0);
        Due.due("once", y.pair(1, 2), 1);
    }

    static void moveFreesToo() {
        Sentence.of("Terms 2", "Then d is FREED.");
        GuardCells x = chain();
        x.ends(3);
        Due.due("CALL 0 MOVES to 3", x.hears(0, 50, 0, 0, 60), 1);
        Due.due("CALL 1 to 0", x.call(1, 0), 0);
        Due.due("CALL 2 to 1", x.call(2, 0), 1);
        Due.due("none in 2", x.cell(2, 3), 0);
    }

    static void dropFreesToo() {
        Sentence.of("Terms 2", "its CELL is FREED");
        GuardCells x = chain();
        Due.due("CALL 0 is DROPPED", x.hears(0, 0, 0, 0, 0), 4);
        for (int call = 1; call < 4; call++) {
            Due.due("CALL " + call, x.call(call, 0), call - 1);
        }
    }

    // ---- PAIRS

    static void pairsAsTheFirstMoved() {
        Sentence.of("Terms 2", "PAIRS: a CELL from and a CELL to, numbered as the first CALL MOVED so.");
        GuardCells x = Due.told("c2 0 0;c2 0 0;c2 0 0;k0;h0;d1;m0;");
        x.offers(2, 50);
        x.offers(2, 50);
        x.hears(0, 0, 60, 50, 0);
        x.hears(0, 0, 50, 60, 0);
        x.hears(1, 0, 60, 50, 0);
        Due.due("PAIRS", x.count(11), 2);
        int[][] due = {{2, 1, 2}, {1, 2, 1}};
        for (int i = 0; i < due.length; i++) {
            for (int what = 0; what < 3; what++) {
                Due.due("pair(" + i + ", " + what + ")", x.pair(i, what), due[i][what]);
            }
        }
    }

    static void twelvePairs() {
        Sentence.of("Terms 2", "PAIRS: a CELL from and a CELL to");
        GuardCells x = Due.told("c1 0 0;c1 0 0;c1 0 0;c1 0 0;k0;h0;d1;m0;");
        x.offers(0, 50);
        int[] way = {1, 0, 2, 0, 3, 1, 2, 1, 3, 2, 3, 0, 1};
        int from = 0;
        for (int i = 0; i < way.length; i++) {
            int to = way[i];
            Due.due("MOVES", x.hears(0, to == 0 ? 9 : 1, to == 1 ? 9 : 1, to == 2 ? 9 : 1, to == 3 ? 9 : 1), 1);
            Due.due("PAIRS", x.count(11), Math.min(i + 1, 12));
            Due.due("from", x.pair(i % 12, 0), from);
            Due.due("to", x.pair(i % 12, 1), to);
            from = to;
        }
        Due.due("the first again", x.pair(0, 2), 2);
        Due.due("the last", x.pair(11, 2), 1);
        Due.due("no thirteenth", x.pair(12, 0), GuardCells.NONE);
    }

    // ---- promise 7

    static void endsAnswers() {
        Sentence.of("Promise 7", "A CALL ends, its CELL is FREED: how many CALLS MOVED by that.");
        GuardCells x = chain();
        Due.due("who WAITS ends: none", x.ends(3), 0);
        Due.due("it WAITS no more", x.cell(2, 4), 0);
        Due.due("two", x.ends(0), 2);
        Due.due("none", x.ends(1), 0);
        Due.due("the last", x.ends(2), 0);
        Due.due("CALLS", x.count(1), 0);
    }

    static void allOthersMove() {
        Sentence.of("Promise 7", "how many CALLS MOVED by that");
        // Each CALL but the first WAITS for the CELL below its own, those in CELL 0 for CELL 3.
        GuardCells x = Due.told("c3 0 4;c3 0 4;c3 0 4;c3 0 4;k0;h0;d1;m10;");
        for (int call = 0; call < 12; call++) {
            x.offers(call / 3, 50);
        }
        for (int call = 1; call < 12; call++) {
            int[] v = new int[4];
            v[call / 3] = 50;
            v[(call / 3 + 3) % 4] = 60;
            Due.due("WAITS", x.hears(call, v[0], v[1], v[2], v[3]), WAITS);
        }
        Due.due("all others", x.ends(0), 11);
        int[] many = {3, 3, 3, 2};
        for (int i = 0; i < 4; i++) {
            Due.due("from", x.pair(i, 0), (i + 1) % 4);
            Due.due("to", x.pair(i, 1), i);
            Due.due("how many", x.pair(i, 2), many[i]);
            Due.due("nobody WAITS", x.cell(i, 4), 0);
        }
    }

    static void endsOfNoCall() {
        Sentence.of("Promise 7", "BAD.");
        GuardCells x = Due.told("c1 0 0;");
        Due.due("no CALLS", x.ends(0), GuardCells.BAD);
        x.offers(0, 50);
        for (int call : new int[] {Integer.MIN_VALUE, -1, 1, 11, 12, Integer.MAX_VALUE}) {
            Due.due("CALL " + call, x.ends(call), GuardCells.BAD);
        }
        Due.due("CALL 0", x.ends(0), 0);
        Due.due("again", x.ends(0), GuardCells.BAD);
    }
}
