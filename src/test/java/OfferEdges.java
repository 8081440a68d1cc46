import java.math.BigInteger;

/** Terms 2 (CALLS, CHANCE, DRAW, OFFERED) and promises 5 and 9. */
final class OfferEdges {
    private static final BigInteger TWO_TO_32 = BigInteger.ONE.shiftLeft(32);
    private static final int[] SEEDS = {
        0, 1, -1, 2, 69070, 475628535, 65535, 65536, Integer.MAX_VALUE, Integer.MIN_VALUE, -69068, 123456789, -987654321,
    };

    private OfferEdges() {
    }

    private static GuardCells fullOfCalls() {
        GuardCells x = Due.told("c6 0 0;c6 0 0;c6 15 0;");
        for (int call = 0; call < 12; call++) {
            Due.due("offers()", x.offers(call / 6, 50), call);
        }
        return x;
    }

    static void callsTwelve() {
        Sentence.of("Terms 2", "CALLS 0 .. 11");
        GuardCells x = fullOfCalls();
        Due.due("CALLS", x.count(1), 12);
        Due.due("CALL 0", x.call(0, 0), 0);
        Due.due("CALL 11", x.call(11, 0), 1);
        Due.due("CALL 12", x.call(12, 0), GuardCells.NO);
        Due.due("a thirteenth", x.offers(2, 50), GuardCells.FULL);
    }

    static void busyAndFree() {
        Sentence.of("Terms 2", "BUSY of a CELL: CALLS in it. FREE: CHANNELS less BUSY.");
        GuardCells x = Due.told("c2 0 0;c2 0 0;");
        for (int busy = 0; busy < 2; busy++) {
            Due.due("BUSY", x.cell(1, 3), busy);
            Due.due("offers()", x.offers(1, 50), busy);
        }
        Due.due("BUSY", x.cell(1, 3), 2);
        Due.due("none FREE", x.offers(1, 50), GuardCells.NONE);
        Due.due("the other", x.cell(0, 3), 0);
        x.ends(0);
        Due.due("BUSY", x.cell(1, 3), 1);
    }

    static void chanceHasTwoEnds() {
        Sentence.of("Terms 2", "CHANCE of a CELL: 10 times FREE less GUARD, but 0 at least, 10 at most.");
        GuardCells x = Due.told("c2 20 0;");
        for (int guard = 19; guard >= 0; guard--) {
            x.guards(0, guard);
            Due.due("2 FREE, GUARD " + guard, x.cell(0, 5), guard >= 10 ? 20 - guard : 10);
        }
        x.offers(0, 50);
        for (int guard = 1; guard <= 20; guard++) {
            x.guards(0, guard);
            Due.due("1 FREE, GUARD " + guard, x.cell(0, 5), guard <= 10 ? 10 - guard : 0);
        }
        GuardCells y = Due.told("c1 0 0;c1 10 0;c6 60 0;");
        Due.due("1 FREE, GUARD 0", y.cell(0, 5), 10);
        Due.due("1 FREE, GUARD 10", y.cell(1, 5), 0);
        Due.due("6 FREE, GUARD 60", y.cell(2, 5), 0);
        y.offers(0, 50);
        Due.due("0 FREE, GUARD 0", y.cell(0, 5), 0);
    }

    private static int nextSeed(int seed) {
        return BigInteger.valueOf(seed).multiply(BigInteger.valueOf(69069)).add(BigInteger.ONE).intValue();
    }

    static void seedIsLeftOver() {
        Sentence.of("Terms 2", "THE SEED (0 at first) becomes it times 69069 and 1 (what is left over by 2 to the 32)");
        GuardCells x = Due.told("c1 5 0;");
        Due.due("at first", x.count(7), 0);
        Due.due("0 becomes 1", x.offers(0, 50) == 0 ? x.count(7) : -7, 1);
        x.ends(0);
        for (int seed : SEEDS) {
            x.seeds(seed);
            int call = x.offers(0, 50);
            Due.due("behind " + seed, x.count(7), nextSeed(seed));
            if (call >= 0) {
                x.ends(call);
            }
        }
        // By hand: 475628535 times 69069 and 1 is 32851187283916 = 7648 times 2 to the 32 and 3277404108.
        x.seeds(475628535);
        x.offers(0, 50);
        Due.due("by hand", x.count(7), (int) 3277404108L);
    }

    static void drawIsNotBelowZero() {
        Sentence.of("Terms 2", "the DRAW is it by 2 to the 16, cut (taken as 0 .. 65535), and what that leaves over by 10");
        for (int seed : SEEDS) {
            BigInteger next = BigInteger.valueOf(nextSeed(seed)).mod(TWO_TO_32);
            int draw = next.divide(BigInteger.valueOf(65536)).mod(BigInteger.TEN).intValue();
            for (int chance = 1; chance <= 9; chance++) {
                GuardCells x = Due.told("c1 " + (10 - chance) + " 0;");
                x.seeds(seed);
                int want = draw < chance ? 0 : GuardCells.NONE;
                Due.due("seed " + seed + ", DRAW " + draw + ", CHANCE " + chance, x.offers(0, 50), want);
            }
        }
        // By hand: behind -1 THE SEED is 2 to the 32 less 69068, by 2 to the 16 65534.
        GuardCells x = Due.told("c1 6 0;c1 5 0;");
        x.seeds(-1);
        Due.due("4 is not less than 4", x.offers(0, 50), GuardCells.NONE);
        x.seeds(-1);
        Due.due("4 is less than 5", x.offers(1, 50), 0);
    }

    static void takenForCertain() {
        Sentence.of("Terms 2", "It is TAKEN, if CHANCE is 10");
        for (int seed : SEEDS) {
            GuardCells x = Due.told("c2 10 0;");
            x.seeds(seed);
            Due.due("TAKEN", x.offers(0, 50), 0);
            Due.due("no DRAW", x.count(7), seed);
        }
    }

    static void notTakenForCertain() {
        Sentence.of("Terms 2", "not, if it is 0");
        for (int seed : SEEDS) {
            GuardCells x = Due.told("c1 10 0;");
            x.seeds(seed);
            Due.due("not TAKEN", x.offers(0, 50), GuardCells.NONE);
            Due.due("no DRAW", x.count(7), seed);
        }
    }

    static void takenByDraw() {
        Sentence.of("Terms 2", "else if a DRAW (there is one just then) is less than CHANCE");
        // Behind 0 the DRAW is 0, behind 1 it is 1.
        GuardCells x = Due.told("c1 9 0;c1 9 0;c1 8 0;");
        Due.due("0 is less than 1", x.offers(0, 50), 0);
        Due.due("one DRAW", x.count(7), 1);
        Due.due("1 is not less than 1", x.offers(1, 50), GuardCells.NONE);
        Due.due("one DRAW, though not TAKEN", x.count(7), 69070);
        x.seeds(1);
        Due.due("1 is less than 2", x.offers(2, 50), 1);
        // Behind 9 THE SEED is 621622, by 2 to the 16 9; behind 8 it is 552553, by 2 to the 16 8.
        GuardCells y = Due.told("c1 1 0;c1 1 0;");
        y.seeds(9);
        Due.due("9 is not less than 9", y.offers(0, 50), GuardCells.NONE);
        y.seeds(8);
        Due.due("8 is less than 9", y.offers(0, 50), 0);
    }

    static void lowestThatThereIsNot() {
        Sentence.of("Terms 2", "TAKEN it is the lowest CALL that there is not");
        GuardCells x = fullOfCalls();
        x.ends(11);
        x.ends(0);
        x.ends(5);
        Due.due("0", x.offers(2, 50), 0);
        Due.due("5", x.offers(2, 50), 5);
        Due.due("11", x.offers(2, 50), 11);
        Due.due("no more", x.offers(2, 50), GuardCells.FULL);
    }

    static void levelOfWhatIsTold() {
        Sentence.of("Terms 2", "its LEVEL by its OWN CELL is 64 times what is told, by others 0");
        GuardCells x = Due.told("c2 0 0;c2 0 0;c2 0 0;c2 0 0;");
        x.offers(3, 100);
        x.offers(0, 0);
        x.offers(1, 1);
        int[][] due = {{0, 0, 0, 6400}, {0, 0, 0, 0}, {0, 64, 0, 0}};
        for (int call = 0; call < 3; call++) {
            for (int cell = 0; cell < 4; cell++) {
                Due.due("level(" + call + ", " + cell + ", 0)", x.level(call, cell, 0), due[call][cell]);
            }
        }
    }

    static void streakAndFallAtFirst() {
        Sentence.of("Terms 2", "a STREAK by each CELL (0 at first), a FALL (0 at first)");
        GuardCells x = Due.told("c2 0 1;c1 0 1;k0;h0;d1;m0;");
        x.offers(0, 50);
        x.hears(0, 40, 60, 0, 0);
        x.hears(0, 60, 40, 0, 0);
        x.offers(1, 50);
        x.hears(0, 50, 60, 0, 0);
        Due.due("MOVED ahead", x.call(0, 3), 2);
        Due.due("a RETURN ahead", x.call(0, 4), 1);
        Due.due("WAITS ahead", x.call(0, 1), 1);
        Due.due("a STREAK ahead", x.level(0, 1, 1), 1);
        Due.due("a FALL ahead", x.call(0, 5), 640);
        x.ends(0);
        Due.due("the same number anew", x.offers(0, 50), 0);
        Due.due("STREAK", x.level(0, 1, 1), 0);
        Due.due("STREAK by its OWN", x.level(0, 0, 1), 0);
        Due.due("FALL", x.call(0, 5), 0);
        Due.due("LEVEL by the other", x.level(0, 1, 0), 0);
        int[] fresh = {0, GuardCells.NONE, 0, 0, 0, 0, GuardCells.NONE};
        for (int what = 0; what < fresh.length; what++) {
            Due.due("call(0, " + what + ")", x.call(0, what), fresh[what]);
        }
    }

    // ---- promises 5 and 9

    static void offersAValue() {
        Sentence.of("Promise 5", "OFFERED, of a value (0 .. 100): the CALL");
        GuardCells x = Due.told("c3 0 0;");
        Due.due("offers(0, 0)", x.offers(0, 0), 0);
        Due.due("offers(0, 100)", x.offers(0, 100), 1);
        Due.due("offers(0, -1)", x.offers(0, -1), GuardCells.BAD);
        Due.due("offers(0, 101)", x.offers(0, 101), GuardCells.BAD);
        Due.due("OFFERED", x.cell(0, 6), 2);
        Due.due("TAKEN", x.cell(0, 7), 2);
        Due.due("the next", x.offers(0, 1), 2);
    }

    static void offersToCells() {
        Sentence.of("Promise 5", "BAD");
        for (int cells = 0; cells <= 4; cells++) {
            GuardCells x = Due.told("c1 0 0;".repeat(cells));
            Due.due("CELL -1 of " + cells, x.offers(-1, 50), GuardCells.BAD);
            Due.due("CELL " + cells + " of " + cells, x.offers(cells, 50), GuardCells.BAD);
            Due.due("the last of " + cells, x.offers(cells - 1, 50), cells == 0 ? GuardCells.BAD : 0);
        }
    }

    static void notTakenIsADeed() {
        Sentence.of("Promise 5", "NONE: it is not TAKEN (a deed, too).");
        GuardCells x = Due.told("c1 10 0;c1 9 0;");
        Due.due("by GUARD", x.offers(0, 50), GuardCells.NONE);
        Due.due("can be UNDONE", x.count(10), 1);
        Due.due("OFFERED", x.cell(0, 6), 1);
        Due.due("TAKEN", x.cell(0, 7), 0);
        x.seeds(1);
        Due.due("by DRAW", x.offers(1, 50), GuardCells.NONE);
        Due.due("can be UNDONE", x.count(10), 2);
        Due.due("OFFERED", x.cell(1, 6), 1);
        Due.due("undo()", x.undo(), 1);
        Due.due("OFFERED no more", x.cell(1, 6), 0);
        Due.due("THE SEED as ahead", x.count(7), 1);
        Due.due("undo()", x.undo(), 0);
        Due.due("OFFERED no more", x.cell(0, 6), 0);
    }

    static void fullIsNotOffered() {
        Sentence.of("Promise 5", "FULL: there are 12 (not OFFERED).");
        GuardCells x = fullOfCalls();
        Due.due("where some are FREE", x.offers(2, 50), GuardCells.FULL);
        Due.due("where none is FREE", x.offers(0, 50), GuardCells.FULL);
        Due.due("OFFERED to 2", x.cell(2, 6), 0);
        Due.due("OFFERED to 0", x.cell(0, 6), 6);
        // GUARD 55 of 6 FREE: a DRAW would be needed.
        x.guards(2, 55);
        Due.due("where a DRAW would be", x.offers(2, 50), GuardCells.FULL);
        Due.due("no DRAW", x.count(7), 0);
        x.ends(3);
        Due.due("11 are not FULL", x.offers(2, 50), 3);
    }

    static void seedIsAny() {
        Sentence.of("Promise 9", "THE SEED is any: what it was.");
        GuardCells x = new GuardCells();
        int was = 0;
        for (int seed : SEEDS) {
            Due.due("seeds(" + seed + ")", x.seeds(seed), was);
            Due.due("count(7)", x.count(7), seed);
            was = seed;
        }
        Due.due("no deed", x.count(10), 0);
    }
}
