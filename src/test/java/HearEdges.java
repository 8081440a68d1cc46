/** Terms 2 (HEARD, STREAK, TARGET, ASKS, DROPPED, MOVES) and promise 6. */
final class HearEdges {
    private static final int NOTHING = 0, MOVED = 1, WAITS = 2, TURNED = 3, DROPPED = 4;

    private HearEdges() {
    }

    // ---- HEARD

    static void valuesOfCells() {
        Sentence.of("Terms 2", "HEARD: for each CELL a value (0 .. 100; for those of the four that there are not, 0, else BAD).");
        for (int cells = 1; cells <= 4; cells++) {
            for (int cell = 0; cell < 4; cell++) {
                GuardCells x = Due.told("c1 0 0;".repeat(cells) + "m0;d5;");
                x.offers(0, 50);
                String name = cell + " of " + cells + " CELLS: ";
                Due.due(name + -1, hearsOne(x, cell, -1), GuardCells.BAD);
                Due.due(name + 101, hearsOne(x, cell, 101), GuardCells.BAD);
                Due.due(name + 1, hearsOne(x, cell, 1), cell < cells ? NOTHING : GuardCells.BAD);
                Due.due(name + 100, hearsOne(x, cell, 100), cell < cells ? NOTHING : GuardCells.BAD);
                Due.due(name + 0, hearsOne(x, cell, 0), NOTHING);
                Due.due(name + "HEARD", x.call(0, 2), cell < cells ? 3 : 1);
            }
        }
    }

    private static int hearsOne(GuardCells x, int cell, int value) {
        int[] v = new int[4];
        v[cell] = value;
        return x.hears(0, v[0], v[1], v[2], v[3]);
    }

    static void levelIsCutDown() {
        Sentence.of("Terms 2", "LEVEL becomes (LEVEL times (F less 1) and 64 times the value) by F, cut down to a whole number");
        Due.due("1 by 2", behind("k1;", 1, 6), 0);
        Due.due("3 by 2", behind("k1;", 3, 6), 1);
        Due.due("18 by 4", behind("k2;", 3, 8), 4);
        Due.due("126 by 8", behind("k3;", 3, 3), 15);
        Due.due("nothing is left over", behind("k3;", 3, 1), 21);
        Due.due("FILTER 0", behind("k0;", 3, 0), 192);
    }

    /** LEVEL by CELL 1 behind a value, then a number of 0s. */
    private static int behind(String filter, int value, int zeros) {
        GuardCells x = Due.told("c1 0 0;c1 0 0;m0;h20;" + filter);
        x.offers(0, 50);
        x.hears(0, 50, value, 0, 0);
        for (int i = 0; i < zeros; i++) {
            x.hears(0, 50, 0, 0, 0);
        }
        return x.level(0, 1, 0);
    }

    static void filterIsAPower() {
        Sentence.of("Terms 2", "F is 2 to the power of FILTER");
        int[] due = {0, 3200, 4800, 5600};
        for (int filter = 0; filter <= 3; filter++) {
            GuardCells x = Due.told("c1 0 0;m0;k" + filter + ";");
            x.offers(0, 100);
            x.hears(0, 100, 0, 0, 0);
            Due.due("the most stays, FILTER " + filter, x.level(0, 0, 0), 6400);
            x.hears(0, 0, 0, 0, 0);
            Due.due("0 behind 100, FILTER " + filter, x.level(0, 0, 0), due[filter]);
        }
    }

    static void fallBelowZero() {
        Sentence.of("Terms 2", "FALL: how much less its LEVEL by its OWN CELL is than before (below 0: more)");
        GuardCells x = Due.told("c1 0 0;c1 0 0;m0;k0;h20;");
        x.offers(0, 50);
        x.hears(0, 49, 9, 0, 0);
        Due.due("less", x.call(0, 5), 64);
        x.hears(0, 49, 0, 0, 0);
        Due.due("the same", x.call(0, 5), 0);
        x.hears(0, 50, 0, 0, 0);
        Due.due("more", x.call(0, 5), -64);
        x.hears(0, 100, 0, 0, 0);
        x.hears(0, 0, 0, 0, 0);
        Due.due("the most", x.call(0, 5), 6400);
        x.hears(0, 100, 0, 0, 0);
        Due.due("the least", x.call(0, 5), -6400);
    }

    // ---- STREAK

    /** With FILTER 3, and 0 at first, two values v, w make a LEVEL of 7 times v and 8 times w, so it can be one 64th off. */
    private static GuardCells twice(String settings, int ownFirst, int first, int ownNext, int next) {
        GuardCells x = Due.told("c1 0 0;c1 0 0;k3;m0;d5;" + settings);
        x.offers(0, 0);
        x.hears(0, ownFirst, first, 0, 0);
        x.hears(0, ownNext, next, 0, 0);
        return x;
    }

    static void streakAtHysteresis() {
        Sentence.of("Terms 2", "1 more, if its LEVEL is that by the OWN CELL and 64 times HYSTERESIS, or more");
        GuardCells x = twice("h20;", 0, 96, 0, 76);
        Due.due("LEVEL", x.level(0, 1, 0), 1280);
        Due.due("STREAK just at 20", x.level(0, 1, 1), 1);
        GuardCells y = twice("h0;", 10, 10, 10, 10);
        Due.due("LEVEL", y.level(0, 1, 0), y.level(0, 0, 0));
        Due.due("STREAK of the same by 0, twice", y.level(0, 1, 1), 2);
        GuardCells z = twice("h0;", 10, 9, 10, 11);
        Due.due("LEVEL", z.level(0, 1, 0), 151);
        Due.due("STREAK of one 64th more, once", z.level(0, 1, 1), 1);
    }

    static void streakBelowHysteresis() {
        Sentence.of("Terms 2", "or more; else 0");
        GuardCells x = twice("h20;", 0, 97, 0, 75);
        Due.due("LEVEL", x.level(0, 1, 0), 1279);
        Due.due("STREAK just below 20", x.level(0, 1, 1), 0);
        GuardCells y = twice("h0;", 10, 11, 10, 9);
        Due.due("LEVEL", y.level(0, 1, 0), y.level(0, 0, 0) - 1);
        Due.due("STREAK ends", y.level(0, 1, 1), 0);
        y.hears(0, 0, 100, 0, 0);
        Due.due("STREAK begins anew", y.level(0, 1, 1), 1);
    }

    static void streakOfOthersOnly() {
        Sentence.of("Terms 2", "STREAK by each other CELL");
        GuardCells x = Due.told("c1 0 0;c1 0 0;c1 0 0;c1 0 0;k0;m0;d5;h0;");
        x.offers(2, 50);
        for (int many = 1; many <= 4; many++) {
            x.hears(0, 50, 49, 50, 51);
            int[] due = {many, 0, 0, many};
            for (int cell = 0; cell < 4; cell++) {
                Due.due("STREAK by " + cell, x.level(0, cell, 1), due[cell]);
            }
        }
    }

    // ---- TARGET

    static void targetAtDwell() {
        Sentence.of("Terms 2", "TARGET: of CELLS whose STREAK is DWELL or more");
        for (int dwell = 1; dwell <= 5; dwell++) {
            GuardCells x = Due.told("c1 0 0;c1 0 0;k0;m0;h0;d" + dwell + ";");
            x.offers(0, 50);
            for (int many = 1; many < dwell; many++) {
                Due.due("STREAK " + many + " of " + dwell, x.hears(0, 50, 60, 0, 0), NOTHING);
            }
            Due.due("STREAK " + dwell, x.hears(0, 50, 60, 0, 0), MOVED);
        }
        GuardCells y = Due.told("c1 0 0;c1 0 0;k0;m0;h0;d2;");
        y.offers(0, 50);
        y.offers(1, 50);
        int[] due = {NOTHING, TURNED, TURNED, TURNED};
        for (int many = 0; many < due.length; many++) {
            Due.due("STREAK " + (many + 1) + " where none is FREE", y.hears(0, 50, 60, 0, 0), due[many]);
        }
        Due.due("STREAK beyond DWELL", y.level(0, 1, 1), 4);
    }

    static void targetOfGreatestLevel() {
        Sentence.of("Terms 2", "the one of the greatest LEVEL");
        for (int best = 1; best < 4; best++) {
            GuardCells x = Due.told("c1 0 0;c1 0 0;c1 0 0;c1 0 0;k0;m0;h0;d1;");
            x.offers(0, 50);
            x.hears(0, 50, best == 1 ? 61 : 60, best == 2 ? 61 : 60, best == 3 ? 61 : 60);
            Due.due("the greatest", x.call(0, 0), best);
        }
        // With FILTER 3 CELL 2 is better than CELL 1 by one 64th: 7 by 9 and 8 by 11, 151, and 150.
        GuardCells y = Due.told("c1 0 0;c1 0 0;c1 0 0;k3;m0;h0;d2;");
        y.offers(0, 0);
        y.hears(0, 0, 10, 9, 0);
        y.hears(0, 0, 10, 11, 0);
        Due.due("greater by one 64th", y.call(0, 0), 2);
        // CELL 2 is better by far, but not long enough.
        GuardCells z = Due.told("c1 0 0;c1 0 0;c1 0 0;k0;m0;h0;d2;");
        z.offers(0, 50);
        z.hears(0, 50, 60, 49, 0);
        z.hears(0, 50, 60, 100, 0);
        Due.due("of those whose STREAK is enough", z.call(0, 0), 1);
    }

    static void targetLowestOfSeveral() {
        Sentence.of("Terms 2", "of several the lowest; none");
        GuardCells x = Due.told("c1 0 0;c1 0 0;c1 0 0;c1 0 0;k0;m0;h0;d1;");
        x.offers(2, 50);
        Due.due("0, 1 and 3", x.hears(0, 60, 60, 50, 60), MOVED);
        Due.due("the lowest", x.call(0, 0), 0);
        x.hears(0, 50, 59, 60, 60);
        Due.due("2 and 3", x.call(0, 0), 2);
        Due.due("none", x.hears(0, 49, 49, 50, 49), NOTHING);
        Due.due("ASKED nowhere", x.cell(0, 8) + x.cell(1, 8) + x.cell(2, 8) + x.cell(3, 8), 2);
    }

    static void targetOfLevelZero() {
        Sentence.of("Terms 2", "if its LEVEL is that by the OWN CELL and 64 times HYSTERESIS, or more");
        // 0 is not less than 0: the lowest of those that there are is TARGET.
        for (int cells = 1; cells <= 4; cells++) {
            GuardCells x = Due.told("c1 0 0;".repeat(cells) + "k0;m0;h0;d1;");
            x.offers(0, 0);
            Due.due("0 by each of " + cells, x.hears(0, 0, 0, 0, 0), cells == 1 ? NOTHING : MOVED);
            Due.due("OWN CELL", x.call(0, 0), cells == 1 ? 0 : 1);
        }
        GuardCells y = Due.told("c1 0 0;c1 0 0;k0;m0;h0;d1;");
        y.offers(0, 1);
        Due.due("0 is less than 1", y.hears(0, 1, 0, 0, 0), NOTHING);
    }

    static void cellsThatThereAreNot() {
        Sentence.of("Terms 2", "of several the lowest; none");
        // By CELLS that there are not all is 0, too, yet they are no TARGET.
        GuardCells x = Due.told("c1 0 0;c1 0 0;k0;m0;h0;d1;");
        x.offers(0, 0);
        x.offers(1, 50);
        Due.due("TURNED away by CELL 1", x.hears(0, 0, 0, 0, 0), TURNED);
        Due.due("OWN CELL", x.call(0, 0), 0);
        GuardCells y = Due.told("c1 0 0;k0;m0;h0;d1;");
        y.offers(0, 0);
        for (int i = 0; i < 6; i++) {
            Due.due("CELL 0 alone", y.hears(0, 0, 0, 0, 0), NOTHING);
        }
    }

    // ---- WAITS, ASKS

    private static GuardCells waiting() {
        GuardCells x = Due.told("c2 0 0;c1 0 1;c1 0 1;c1 0 0;k0;h0;d1;");
        x.offers(0, 50);
        x.offers(1, 50);
        x.offers(2, 50);
        x.offers(3, 50);
        Due.due("WAITS for 1", x.hears(0, 50, 60, 0, 0), WAITS);
        return x;
    }

    static void waitsNoMore() {
        Sentence.of("Terms 2", "WAITING for a CELL that is not TARGET, it does not WAIT any more.");
        GuardCells x = waiting();
        Due.due("no TARGET", x.hears(0, 50, 49, 0, 0), NOTHING);
        Due.due("does not WAIT", x.call(0, 1), GuardCells.NONE);
        Due.due("nobody", x.cell(1, 4), 0);
        Due.due("ends()", x.ends(1), 0);
        GuardCells y = waiting();
        Due.due("another that TURNS it away", y.hears(0, 50, 60, 0, 70), TURNED);
        Due.due("does not WAIT", y.call(0, 1), GuardCells.NONE);
        GuardCells z = waiting();
        Due.due("another where it WAITS", z.hears(0, 50, 60, 70, 0), WAITS);
        Due.due("for 2", z.call(0, 1), 2);
        Due.due("nobody for 1", z.queued(1, 0), GuardCells.NONE);
    }

    static void waitsStill() {
        Sentence.of("Terms 2", "If there is a TARGET and it does not WAIT for that: it ASKS");
        GuardCells x = waiting();
        for (int again = 0; again < 3; again++) {
            Due.due("WAITS still", x.hears(0, 50, 60, 0, 0), WAITS);
        }
        Due.due("ASKED once", x.cell(1, 8), 1);
        Due.due("WAITS once", x.cell(1, 4), 1);
        x.hears(0, 50, 49, 0, 0);
        x.hears(0, 50, 60, 0, 0);
        Due.due("ASKED anew", x.cell(1, 8), 2);
    }

    static void movesIfFree() {
        Sentence.of("Terms 2", "if TARGET has FREE ones, it MOVES there");
        // All of CELL 1 is held back from new calls, not from moving ones.
        GuardCells x = Due.told("c6 0 0;c3 30 4;k0;h0;d1;m0;");
        for (int call = 0; call < 4; call++) {
            x.offers(0, 50);
        }
        for (int call = 0; call < 3; call++) {
            Due.due("FREE: " + (3 - call), x.hears(call, 50, 60, 0, 0), MOVED);
        }
        Due.due("none FREE", x.hears(3, 50, 60, 0, 0), WAITS);
        Due.due("ASKED", x.cell(1, 8), 4);
        Due.due("MOVED there", x.cell(1, 10), 3);
    }

    static void placesFull() {
        Sentence.of("Terms 2", "else if fewer than PLACES WAIT there, it WAITS there; else it is TURNED away");
        for (int places = 0; places <= 4; places++) {
            GuardCells x = Due.told("c6 0 0;c1 0 " + places + ";k0;h0;d1;m0;");
            for (int call = 0; call < 6; call++) {
                x.offers(0, 50);
            }
            x.offers(1, 50);
            for (int call = 0; call < 6; call++) {
                String name = "PLACES " + places + ", WAITING " + Math.min(call, places);
                Due.due(name, x.hears(call, 50, 60, 0, 0), call < places ? WAITS : TURNED);
                Due.due(name + ", then", x.cell(1, 4), Math.min(call + 1, places));
            }
            Due.due("TURNED away", x.cell(1, 9), 6 - places);
            Due.due("ASKED", x.cell(1, 8), 6);
            Due.due("who is TURNED away does not WAIT", x.call(5, 1), GuardCells.NONE);
            Due.due("its OWN CELL", x.call(5, 0), 0);
        }
    }

    // ---- DROPPED

    static void droppedBelowNeed() {
        Sentence.of("Terms 2", "If it has not MOVED, and its LEVEL by its OWN CELL is below 64 times NEED, it is DROPPED");
        GuardCells x = Due.told("c2 0 0;k3;m10;");
        x.offers(0, 0);
        Due.due("not when it is OFFERED", x.count(1), 1);
        Due.due("LEVEL 640", x.hears(0, 80, 0, 0, 0), NOTHING);
        Due.due("LEVEL 640 again", x.hears(0, 10, 0, 0, 0), NOTHING);
        Due.due("LEVEL", x.level(0, 0, 0), 640);
        x.offers(0, 0);
        Due.due("LEVEL 648", x.hears(1, 81, 0, 0, 0), NOTHING);
        Due.due("LEVEL 639", x.hears(1, 9, 0, 0, 0), DROPPED);
        Due.due("DROPPED in it", x.cell(0, 11), 1);
        GuardCells y = Due.told("c2 0 0;k0;m60;");
        y.offers(0, 0);
        Due.due("60 of 60", y.hears(0, 60, 0, 0, 0), NOTHING);
        Due.due("59 of 60", y.hears(0, 59, 0, 0, 0), DROPPED);
    }

    static void neverDroppedByNeedZero() {
        Sentence.of("Terms 2", "below 64 times NEED");
        GuardCells x = Due.told("c2 0 0;k0;m0;");
        x.offers(0, 0);
        Due.due("0 of 0", x.hears(0, 0, 0, 0, 0), NOTHING);
        GuardCells y = Due.told("c2 0 0;k0;m1;");
        y.offers(0, 0);
        Due.due("0 of 1", y.hears(0, 0, 0, 0, 0), DROPPED);
    }

    static void droppedIsGone() {
        Sentence.of("Terms 2", "there is no such CALL any more (it does not WAIT, too), its CELL is FREED");
        GuardCells x = Due.told("c1 0 1;c1 0 1;c1 0 1;k0;h0;d1;m30;");
        x.offers(0, 50);
        x.offers(1, 50);
        x.offers(2, 50);
        Due.due("CALL 2 WAITS for 0", x.hears(2, 60, 0, 50, 0), WAITS);
        Due.due("CALL 0 WAITS for 1", x.hears(0, 50, 60, 0, 0), WAITS);
        Due.due("CALL 0 WAITS still, and is DROPPED", x.hears(0, 29, 60, 0, 0), DROPPED);
        Due.due("no such CALL", x.call(0, 0), GuardCells.NO);
        Due.due("no LEVEL", x.level(0, 0, 0), GuardCells.BAD);
        Due.due("not HEARD", x.hears(0, 50, 50, 0, 0), GuardCells.BAD);
        Due.due("it ends no more", x.ends(0), GuardCells.BAD);
        Due.due("CALLS", x.count(1), 2);
        Due.due("nobody WAITS for 1", x.cell(1, 4), 0);
        Due.due("CALL 2 MOVED to 0", x.call(2, 0), 0);
        Due.due("ends(1) serves nobody", x.ends(1), 0);
    }

    // ---- MOVES

    static void moveClears() {
        Sentence.of("Terms 2", "c is its OWN CELL then; STREAKS and FALL are 0");
        GuardCells x = Due.told("c1 0 0;c1 0 1;c1 0 0;k0;h0;d2;m0;");
        x.offers(0, 50);
        x.offers(1, 50);
        x.hears(0, 40, 60, 55, 0);
        Due.due("WAITS", x.hears(0, 30, 60, 55, 0), WAITS);
        Due.due("STREAK ahead", x.level(0, 2, 1), 2);
        Due.due("FALL ahead", x.call(0, 5), 640);
        Due.due("served", x.ends(1), 1);
        int[] due = {1, GuardCells.NONE, 2, 1, 0, 0, 0};
        for (int what = 0; what < due.length; what++) {
            Due.due("call(0, " + what + ")", x.call(0, what), due[what]);
        }
        for (int cell = 0; cell < 3; cell++) {
            Due.due("STREAK by " + cell, x.level(0, cell, 1), 0);
        }
        x.hears(0, 70, 20, 80, 0);
        Due.due("MOVES by itself", x.hears(0, 70, 10, 80, 0), MOVED);
        Due.due("OWN CELL", x.call(0, 0), 2);
        Due.due("FALL", x.call(0, 5), 0);
        Due.due("STREAK by 0", x.level(0, 0, 1), 0);
    }

    static void returnAtWindow() {
        Sentence.of("Terms 2", "it was HEARD as often since then as WINDOW tells, or less often (what is HEARD now counts)");
        for (int window = 1; window <= 9; window++) {
            for (int heard = 1; heard <= 10; heard++) {
                GuardCells x = Due.told("c1 0 0;c1 0 0;k0;h5;d1;m0;w" + window + ";");
                x.offers(0, 50);
                x.hears(0, 50, 60, 0, 0);
                for (int i = 1; i < heard; i++) {
                    x.hears(0, 50, 50, 0, 0);
                }
                Due.due("MOVES back", x.hears(0, 60, 50, 0, 0), MOVED);
                Due.due("WINDOW " + window + ", HEARD " + heard, x.call(0, 4), heard <= window ? 1 : 0);
            }
        }
    }

    static void returnToTheLastOnly() {
        Sentence.of("Terms 2", "it is a RETURN, if c is where it MOVED from when it MOVED last");
        GuardCells x = Due.told("c1 0 0;c1 0 0;c1 0 0;k0;h5;d1;m0;w9;");
        x.offers(0, 50);
        x.hears(0, 50, 60, 0, 0);
        Due.due("the first is none", x.call(0, 4), 0);
        x.hears(0, 0, 50, 60, 0);
        x.hears(0, 60, 0, 50, 0);
        Due.due("0, 1, 2, 0 are none", x.call(0, 4), 0);
        x.hears(0, 50, 0, 60, 0);
        Due.due("0, 2 is one", x.call(0, 4), 1);
        x.hears(0, 60, 0, 50, 0);
        Due.due("2, 0 is another", x.call(0, 4), 2);
        Due.due("MOVED", x.call(0, 3), 5);
    }

    static void returnOfOneThatIsServed() {
        Sentence.of("Terms 2", "or less often (what is HEARD now counts)");
        GuardCells x = Due.told("c1 0 1;c1 0 1;k0;h5;d1;m30;w1;");
        x.offers(0, 50);
        x.hears(0, 50, 60, 0, 0);
        x.offers(0, 50);
        Due.due("WAITS, HEARD once", x.hears(0, 60, 50, 0, 0), WAITS);
        // What is HEARD now is another CALL: it does not count for CALL 0.
        Due.due("the other is DROPPED", x.hears(1, 0, 0, 0, 0), DROPPED);
        Due.due("OWN CELL", x.call(0, 0), 0);
        Due.due("a RETURN", x.call(0, 4), 1);
        x.offers(1, 50);
        x.hears(0, 50, 60, 0, 0);
        x.hears(0, 50, 60, 0, 0);
        Due.due("HEARD twice, served", x.ends(1), 1);
        Due.due("no RETURN", x.call(0, 4), 1);
    }

    // ---- promise 6

    static void hearsAnswers() {
        Sentence.of("Promise 6", "0 nothing, 1 it MOVED, 2 it WAITS then (from now on, or still), 3 it was TURNED away");
        GuardCells x = Due.told("c3 0 0;c1 0 1;c1 0 0;k0;h0;d1;m30;");
        x.offers(0, 50);
        x.offers(0, 50);
        x.offers(1, 50);
        Due.due("nothing", x.hears(0, 50, 49, 49, 0), NOTHING);
        Due.due("from now on", x.hears(0, 50, 50, 0, 0), WAITS);
        Due.due("still", x.hears(0, 50, 50, 0, 0), WAITS);
        Due.due("TURNED away", x.hears(1, 50, 50, 0, 0), TURNED);
        Due.due("MOVED", x.hears(0, 50, 50, 51, 0), MOVED);
        Due.due("where one gave way", x.hears(1, 50, 50, 0, 0), WAITS);
    }

    static void droppedBesides() {
        Sentence.of("Promise 6", "4 it was DROPPED (be it 2 or 3 besides; who MOVED is not DROPPED)");
        GuardCells x = Due.told("c3 0 0;c1 0 1;k0;h0;d1;m30;");
        x.offers(0, 50);
        x.offers(0, 50);
        x.offers(1, 50);
        Due.due("no TARGET", x.hears(0, 29, 0, 0, 0), DROPPED);
        x.offers(0, 50);
        Due.due("it would WAIT from now on", x.hears(0, 29, 60, 0, 0), DROPPED);
        Due.due("ASKED", x.cell(1, 8), 1);
        x.offers(0, 50);
        x.hears(1, 50, 60, 0, 0);
        Due.due("TURNED away", x.hears(0, 29, 60, 0, 0), DROPPED);
        Due.due("TURNED away is counted", x.cell(1, 9), 1);
        Due.due("it would WAIT still", x.hears(1, 29, 60, 0, 0), DROPPED);
        Due.due("DROPPED", x.cell(0, 11), 4);
        x.offers(0, 50);
        x.ends(2);
        Due.due("MOVED, though below NEED by both", x.hears(0, 0, 29, 0, 0), MOVED);
        Due.due("it is there", x.call(0, 0), 1);
        Due.due("not DROPPED", x.cell(0, 11) + x.cell(1, 11), 4);
    }

    static void hearsOfNoCall() {
        Sentence.of("Promise 6", "BAD.");
        GuardCells x = Due.told("c1 0 0;");
        Due.due("no CALLS", x.hears(0, 0, 0, 0, 0), GuardCells.BAD);
        x.offers(0, 50);
        for (int call : new int[] {Integer.MIN_VALUE, -1, 1, 11, 12, Integer.MAX_VALUE}) {
            Due.due("CALL " + call, x.hears(call, 50, 0, 0, 0), GuardCells.BAD);
        }
        Due.due("CALL 0", x.hears(0, 50, 0, 0, 0), NOTHING);
        Due.due("HEARD", x.call(0, 2), 1);
    }
}
