/** Sentences that name no boundary, or several parts that go together: what they say, taken as a whole. */
final class PlainSentences {
    private static final int NONE = GuardCells.NONE;
    private static final int MOST_CALLS = 512;

    private PlainSentences() {
    }

    // ---- what it is

    static void usedFor512Calls() {
        Sentence.of("What it is", "An object is used for at most 512 calls after it has been made; "
                + "what later calls answer is free.");
        String text = "c1 0 0;c1 0 0;h0;d1;k0;m0;w1;";
        GuardCells x = Due.told(text);
        Due.due("offers()", x.offers(0, 50), 0);
        int calls = text.length() + 2;
        int moved = 0;
        // Each time the other CELL is better, so it MOVES with each call, back where it came from.
        while (calls < MOST_CALLS - 1) {
            Due.due("hears()", x.hears(0, moved % 2 == 0 ? 0 : 100, moved % 2 == 0 ? 100 : 0, 0, 0), 1);
            calls++;
            moved++;
        }
        Due.due("RETURNS, as call 512", x.call(0, 4), moved - 1);
        // LANGUAGE.md: no call may ever throw; what these answer is free.
        for (int i = 0; i < 5 * MOST_CALLS; i++) {
            x.hears(0, i % 2 * 100, 100 - i % 2 * 100, 0, 0);
            x.offers(i % 5, i % 103);
            x.keep(i % 3);
            x.undo();
        }
    }

    // ---- 1

    static void eachLetterItsNumber() {
        Sentence.of("Terms 1", "; h N (HYSTERESIS) ; d N (DWELL) ; k N (FILTER) ; m N (NEED) ; w N (WINDOW), ");
        String[] items = {"h20;", "d5;", "k3;", "m60;", "w9;"};
        int[] told = {20, 5, 3, 60, 9};
        int[] first = {3, 2, 1, 10, 3};
        // Every choice of the five, from the first to the last and the other way round.
        for (int choice = 0; choice < 32; choice++) {
            StringBuilder forth = new StringBuilder();
            StringBuilder back = new StringBuilder();
            for (int i = 0; i < 5; i++) {
                forth.append(chosen(choice, i) ? items[i] : "");
                back.append(chosen(choice, 4 - i) ? items[4 - i] : "");
            }
            for (GuardCells x : new GuardCells[] {Due.told(forth.toString()), Due.told(back.toString())}) {
                for (int i = 0; i < 5; i++) {
                    Due.due("count(" + (2 + i) + ") of " + forth, x.count(2 + i), chosen(choice, i) ? told[i] : first[i]);
                }
                Due.due("no CELLS", x.count(0), 0);
            }
        }
    }

    private static boolean chosen(int choice, int which) {
        return (choice >> which & 1) == 1;
    }

    static void tokens() {
        Sentence.of("Terms 1", "TOKENS are the letters c, h, d, k, m, w, NUMBERS (rows of figures) and ; "
                + "(where no figures meet there need be no blanks).");
        GuardCells x = Due.told("c6 0 4;c 1 10 0 ;h 20;d5 ;k 0;m60;w 9;");
        int[] due = {2, 0, 20, 5, 0, 60, 9};
        for (int what = 0; what < due.length; what++) {
            Due.due("count(" + what + ")", x.count(what), due[what]);
        }
        Due.due("GUARD", x.cell(1, 1), 10);
        // Figures with a blank between them are two NUMBERS, figures without are one.
        Due.due("tells() of 'h2 0;'", Due.tell(new GuardCells(), "h2 0;"), -13);
        Due.due("tells() of 'h20;'", Due.tell(new GuardCells(), "h20;"), 1);
        // No other letter is one of these: neither a great letter, nor a word.
        Due.due("tells() of 'C1 0 0;'", Due.tell(new GuardCells(), "C1 0 0;"), -10);
        Due.due("tells() of 'h-1;'", Due.tell(new GuardCells(), "h-1;"), -11);
        Due.due("tells() of 'h+1;'", Due.tell(new GuardCells(), "h+1;"), -11);
        Due.due("tells() of 'c1,0,0;'", Due.tell(new GuardCells(), "c1,0,0;"), -12);
    }

    static void firstFaultOfTwo() {
        Sentence.of("Terms 1", "FAULT: the place of the first letter of the first TOKEN that can't stand there (a fifth c, "
                + "a letter told again, a NUMBER beyond what it may be, too); of any other letter, a NUMBER above 99 or with "
                + "a 0 ahead of others, that TOKEN's; the text's length, if it ends too early.");
        String[] wrong = {";", "7", "h;", "h3 3;", "c1 0 0;", "w2;", "h21;", "c0 0 0;", "x", "?", "h100;", "h03;", "1000", "00"};
        int[] places = {0, 0, 1, 3, 0, 0, 1, 0, 0, 0, 1, 1, 0, 0};
        String ahead = "c1 0 0;c1 0 0;c1 0 0;c1 0 0;w1;";
        for (int i = 0; i < wrong.length; i++) {
            for (String next : wrong) {
                String text = ahead + wrong[i] + " " + next;
                Due.due("tells() of '" + text + "'", Due.tell(new GuardCells(), text), -10 - ahead.length() - places[i]);
            }
        }
        Due.due("nothing wrong but the end", Due.tell(new GuardCells(), ahead + "h3 "), -10 - ahead.length() - 3);
    }

    // ---- 2

    static void ownCellAndChannel() {
        Sentence.of("Terms 2", "each is in a CELL (its OWN), where it has a CHANNEL; it has a LEVEL by each CELL (in 64ths), ");
        GuardCells x = Due.told("c2 0 0;c1 0 0;c3 0 0;k0;m0;h20;");
        int[] cells = {2, 0, 1, 2, 0, 2};
        int[] busy = new int[3];
        for (int call = 0; call < cells.length; call++) {
            Due.due("offers()", x.offers(cells[call], 10 + call), call);
            busy[cells[call]]++;
            for (int cell = 0; cell < 3; cell++) {
                Due.due("BUSY", x.cell(cell, 3), busy[cell]);
            }
        }
        for (int call = 0; call < cells.length; call++) {
            Due.due("its OWN", x.call(call, 0), cells[call]);
            Due.due("LEVEL", x.level(call, cells[call], 0), 64 * (10 + call));
            x.hears(call, 1 + call, 2 + call, 3 + call, 0);
            for (int cell = 0; cell < 3; cell++) {
                Due.due("LEVEL by " + cell, x.level(call, cell, 0), 64 * (1 + cell + call));
            }
        }
        for (int cell = 0; cell < 3; cell++) {
            Due.due("no CHANNEL is left", x.offers(cell, 50), NONE);
        }
    }

    static void waitsForOneOther() {
        Sentence.of("Terms 2", "; it may WAIT in the QUEUE of one other CELL. ");
        GuardCells x = Due.told("c1 0 4;c1 0 4;c1 0 4;k0;d1;h0;m0;");
        for (int cell = 0; cell < 3; cell++) {
            x.offers(cell, 50);
        }
        Due.due("at first none", x.call(0, 1), NONE);
        for (int round = 0; round < 2; round++) {
            Due.due("for 1", x.hears(0, 10, 60, 50, 0), 2);
            waitsFor(x, 0, 1);
            Due.due("for 2", x.hears(0, 10, 50, 60, 0), 2);
            waitsFor(x, 0, 2);
        }
        Due.due("not for its own", x.hears(0, 100, 50, 60, 0), 0);
        waitsFor(x, 0, NONE);
    }

    private static void waitsFor(GuardCells x, int call, int due) {
        Due.due("WAITS for", x.call(call, 1), due);
        for (int cell = 0; cell < 3; cell++) {
            Due.due("how many WAIT for " + cell, x.cell(cell, 4), cell == due ? 1 : 0);
            Due.due("who WAITS for " + cell, x.queued(cell, 0), cell == due ? call : NONE);
        }
    }

    static void draws() {
        Sentence.of("Terms 2", "A DRAW: THE SEED (0 at first) becomes it times 69069 and 1 (what is left over by 2 to the 32); "
                + "the DRAW is it by 2 to the 16, cut (taken as 0 .. 65535), and what that leaves over by 10.");
        int[] seeds = {1, 69070, 475628535, -1017563188, 772999773};
        int[] drawn = {0, 1, 7, 9, 5};
        for (int chance = 1; chance <= 9; chance++) {
            GuardCells x = Due.told("c1 " + (10 - chance) + " 0;");
            for (int i = 0; i < seeds.length; i++) {
                int got = x.offers(0, 50);
                Due.due("CHANCE " + chance + ", DRAW " + drawn[i], got, drawn[i] < chance ? 0 : NONE);
                Due.due("THE SEED", x.count(7), seeds[i]);
                x.ends(0);
            }
        }
    }

    static void offered() {
        Sentence.of("Terms 2", "OFFERED: a new CALL to a CELL. It is TAKEN, if CHANCE is 10, not, if it is 0, "
                + "else if a DRAW (there is one just then) is less than CHANCE.");
        GuardCells x = Due.told("c2 5 0;c1 0 0;");
        // 475628535 is the third SEED from 0 on: 7.
        Due.due("CHANCE 10", x.offers(0, 50), 0);
        Due.due("no DRAW", x.count(7), 0);
        x.seeds(69070);
        Due.due("CHANCE 5, DRAW 7", x.offers(0, 50), NONE);
        Due.due("a DRAW", x.count(7), 475628535);
        x.seeds(0);
        Due.due("CHANCE 5, DRAW 0", x.offers(0, 50), 1);
        Due.due("a DRAW", x.count(7), 1);
        Due.due("CHANCE 0", x.offers(0, 50), NONE);
        Due.due("no DRAW", x.count(7), 1);
        Due.due("OFFERED", x.cell(0, 6), 4);
        Due.due("TAKEN", x.cell(0, 7), 2);
        Due.due("OFFERED to the other", x.cell(1, 6), 0);
    }

    static void inThisOrder() {
        Sentence.of("Terms 2", "Then, in this order: WAITING for a CELL that is not TARGET, it does not WAIT any more. "
                + "If there is a TARGET and it does not WAIT for that: it ASKS");
        // CELL 1 is full with one PLACE, CELL 2 is full with none.
        String text = "c3 0 0;c1 0 1;c1 0 0;k0;d1;h0;m20;";
        GuardCells x = Due.told(text);
        x.offers(0, 50);
        x.offers(0, 50);
        x.offers(1, 50);
        x.offers(2, 50);
        Due.due("WAITS", x.hears(0, 40, 60, 50, 0), 2);
        Due.due("WAITS still", x.hears(0, 40, 60, 60, 0), 2);
        Due.due("ASKED once", x.cell(1, 8), 1);
        Due.due("no TARGET", x.hears(0, 90, 60, 60, 0), 0);
        Due.due("WAITS no more", x.call(0, 1), NONE);
        Due.due("there is a PLACE for another", x.hears(1, 40, 60, 50, 0), 2);
        Due.due("no PLACE", x.hears(0, 40, 60, 50, 0), 3);
        Due.due("does not WAIT for the new TARGET, nor for the old", x.hears(1, 40, 50, 60, 0), 3);
        Due.due("WAITS no more", x.call(1, 1), NONE);
        // First it ASKS, then it is DROPPED; who MOVED is not DROPPED.
        Due.due("TURNED away, and DROPPED", x.hears(1, 19, 50, 60, 0), 4);
        Due.due("TURNED away twice", x.cell(2, 9), 2);
        x.ends(2);
        Due.due("MOVED", x.hears(0, 19, 19, 0, 0), 1);
        Due.due("DROPPED in 0", x.cell(0, 11), 1);
    }

    static void movesFromTo() {
        Sentence.of("Terms 2", "MOVES from a CELL d to a CELL c: c is its OWN CELL then; STREAKS and FALL are 0; it is a RETURN, "
                + "if c is where it MOVED from when it MOVED last, and it was HEARD as often since then as WINDOW tells, "
                + "or less often (what is HEARD now counts). Then d is FREED.");
        for (int window = 1; window <= 9; window++) {
            for (int heard = 1; heard <= 10; heard++) {
                GuardCells x = Due.told("c1 0 0;c1 0 0;c1 0 0;k0;d1;h0;m0;w" + window + ";");
                x.offers(0, 50);
                Due.due("MOVED", x.hears(0, 40, 60, 60, 0), 1);
                Due.due("OWN", x.call(0, 0), 1);
                Due.due("STREAK", x.level(0, 2, 1), 0);
                Due.due("FALL", x.call(0, 5), 0);
                Due.due("d is FREE", x.cell(0, 3), 0);
                for (int i = 1; i < heard; i++) {
                    x.hears(0, 0, 50, 0, 0);
                }
                Due.due("MOVED back", x.hears(0, 60, 50, 50, 0), 1);
                Due.due("RETURNS, WINDOW " + window + ", HEARD " + heard, x.call(0, 4), heard <= window ? 1 : 0);
            }
        }
    }

    static void freedOneAfterTheOther() {
        Sentence.of("Terms 2", "FREED: as long as a CELL has FREE ones and some WAIT for it, the first of them does not WAIT any "
                + "more, and MOVES there. (CELLS are served so in the order in which they were FREED; those that are FREED "
                + "meanwhile come to the end.)");
        GuardCells x = Due.told("c1 0 1;c1 0 1;c1 0 1;c1 0 1;k0;d1;h0;m0;");
        for (int cell = 0; cell < 4; cell++) {
            x.offers(cell, 50);
        }
        // Each WAITS for the CELL ahead of its own.
        x.hears(1, 60, 50, 0, 0);
        x.hears(2, 0, 60, 50, 0);
        x.hears(3, 0, 0, 60, 50);
        Due.due("MOVED by that", x.ends(0), 3);
        for (int call = 1; call < 4; call++) {
            Due.due("OWN", x.call(call, 0), call - 1);
            Due.due("WAITS", x.call(call, 1), NONE);
            Due.due("PAIR " + (call - 1) + " from", x.pair(call - 1, 0), call);
            Due.due("to", x.pair(call - 1, 1), call - 1);
        }
        Due.due("the last is FREE", x.cell(3, 3), 0);
    }

    // ---- 3

    static void sharesByWhatFlows() {
        Sentence.of("Terms 3", "A CELL alone, by rates of new calls a, of moving ones b, of one that ends c: with k CHANNELS "
                + "BUSY it goes up by a times CHANCE by 10, and b (not with all BUSY), down by k times c. "
                + "In the long run: SHARES of k.");
        int[][] rates = {{1, 0, 1}, {0, 1, 1}, {3, 2, 1}, {9, 9, 1}, {9, 9, 9}, {7, 1, 3}, {0, 0, 5}, {9, 0, 2}, {1, 8, 9}};
        for (int channels = 1; channels <= 6; channels++) {
            for (int guard = 0; guard <= 10 * channels; guard += guard % 10 == 0 ? 3 : 7) {
                for (int[] r : rates) {
                    lostByFlows(channels, guard, r);
                }
            }
        }
    }

    private static void lostByFlows(int channels, int guard, int[] rates) {
        GuardCells x = Due.told("c" + channels + " " + guard + " 0;");
        Flows flows = new Flows(channels, guard);
        Fraction[] shares = flows.shares(rates[0], rates[1], rates[2]);
        for (int what = 0; what <= 2; what++) {
            Fraction due = flows.lost(shares, what);
            String name = channels + " CHANNELS, GUARD " + guard + ", what " + what;
            Due.due(name, x.lost(0, rates[0], rates[1], rates[2], what, 0), due.upper().longValueExact());
            Due.due(name, x.lost(0, rates[0], rates[1], rates[2], what, 1), due.lower().longValueExact());
        }
    }

    static void guardsThatCouldBe() {
        Sentence.of("Terms 3", "UNSEEN of a CELL: GUARDS that it could have by which all that was SEEN could be "
                + "(by CHANCE above 0, below 10).");
        // With f FREE ones TAKEN: GUARD below 10 times f; not TAKEN: above 10 times f less 10.
        for (int channels = 1; channels <= 6; channels++) {
            for (int f = 0; f <= 6; f++) {
                GuardCells x = Due.told("c" + channels + " 0 0;");
                x.sees(f, 1);
                couldBe(x, 0, Math.min(10 * f - 1, 10 * channels));
                x.forget();
                x.sees(f, 0);
                couldBe(x, Math.max(0, 10 * f - 9), 10 * channels);
                x.sees(f, 1);
                couldBe(x, Math.max(0, 10 * f - 9), Math.min(10 * f - 1, 10 * channels));
            }
        }
    }

    private static void couldBe(GuardCells x, int least, int greatest) {
        boolean some = least <= greatest;
        Due.due("how many", x.unseen(0, 0), some ? greatest - least + 1 : 0);
        Due.due("the least", x.unseen(0, 1), some ? least : NONE);
        Due.due("the greatest", x.unseen(0, 2), some ? greatest : NONE);
    }

    // ---- promises

    static void heardByEachCell() {
        Sentence.of("Promise 6", "HEARD, by CELLS 0 to 3 (0 for those that there are not):");
        for (int cells = 1; cells <= 4; cells++) {
            GuardCells x = Due.told("c1 0 0;".repeat(cells) + "k0;h20;m0;");
            x.offers(0, 50);
            int[] v = new int[4];
            for (int cell = 0; cell < cells; cell++) {
                v[cell] = 11 + cell;
            }
            Due.due("hears()", x.hears(0, v[0], v[1], v[2], v[3]), 0);
            for (int cell = 0; cell < cells; cell++) {
                Due.due("LEVEL by " + cell + " of " + cells, x.level(0, cell, 0), 64 * v[cell]);
            }
            for (int cell = cells; cell < 4; cell++) {
                int[] w = v.clone();
                w[cell] = 1;
                Due.due("hears() by " + cell + " of " + cells, x.hears(0, w[0], w[1], w[2], w[3]), GuardCells.BAD);
            }
        }
    }

    static void countsOfCalls() {
        Sentence.of("Promise 11", "; of CALLS: 6 OFFERED to it, 7 TAKEN, 8 that ASKED to go there, 9 were TURNED away there, "
                + "10 MOVED there, 11 were DROPPED in it.");
        GuardCells x = Due.told("c4 0 0;c1 0 1;k0;d1;h0;m10;");
        for (int call = 0; call < 4; call++) {
            x.offers(0, 50);
        }
        x.offers(0, 50);
        Due.due("MOVED", x.hears(0, 40, 60, 0, 0), 1);
        x.offers(1, 50);
        Due.due("WAITS", x.hears(1, 40, 60, 0, 0), 2);
        Due.due("TURNED away", x.hears(2, 40, 60, 0, 0), 3);
        Due.due("TURNED away again", x.hears(2, 40, 60, 0, 0), 3);
        Due.due("DROPPED, TURNED away too", x.hears(3, 9, 60, 0, 0), 4);
        Due.due("MOVED by that", x.ends(0), 1);
        Due.due("DROPPED in 1", x.hears(1, 0, 9, 0, 0), 4);
        int[][] due = {{5, 4, 0, 0, 0, 1}, {1, 0, 5, 3, 2, 1}};
        for (int cell = 0; cell < 2; cell++) {
            for (int i = 0; i < 6; i++) {
                Due.due("cell(" + cell + ", " + (6 + i) + ")", x.cell(cell, 6 + i), due[cell][i]);
            }
        }
    }

    static void ofACall() {
        Sentence.of("Promise 12", "Of a CALL: 0 its OWN CELL, 1 for which it WAITS (NONE), 2 how often it was HEARD, 3 MOVED, "
                + "4 how many of these were RETURNS, 5 FALL, 6 from where it MOVED last (NONE).");
        GuardCells x = Due.told("c1 0 0;c2 0 0;c1 0 1;k0;d1;h0;m0;");
        x.offers(0, 50);
        x.offers(2, 50);
        ofCall(x, 0, 0, NONE, 0, 0, 0, 0, NONE);
        x.hears(0, 50, 60, 0, 0);
        x.hears(0, 70, 60, 0, 0);
        x.hears(0, 70, 80, 0, 0);
        x.hears(0, 70, 80, 90, 0);
        x.hears(0, 70, 75, 90, 0);
        ofCall(x, 0, 1, 2, 5, 3, 2, 320, 0);
        ofCall(x, 1, 2, NONE, 0, 0, 0, 0, NONE);
        // The lowest CALL that there is not: nothing of the old one is left.
        x.ends(0);
        Due.due("the same number", x.offers(1, 40), 0);
        ofCall(x, 0, 1, NONE, 0, 0, 0, 0, NONE);
    }

    private static void ofCall(GuardCells x, int call, int... due) {
        for (int what = 0; what < due.length; what++) {
            Due.due("call(" + call + ", " + what + ")", x.call(call, what), due[what]);
        }
    }

    static void lostNumbers() {
        Sentence.of("Promise 16", "By rates a, b (0 .. 9), c (1 .. 9): NEW ones LOST (what = 0), MOVING ones LOST (1), MEAN (2): "
                + "upper (part 0), lower number (1), in least terms.");
        // GUARD 15 of 2, up 3 times 5 by 10 and 2, then 2; down 1, then 2: SHARES 2, 7, 7 by 16.
        GuardCells x = Due.told("c1 0 0;c2 15 0;");
        long[][] due = {{15, 16}, {7, 16}, {21, 16}};
        for (int what = 0; what <= 2; what++) {
            for (int part = 0; part <= 1; part++) {
                Due.due("what " + what + ", part " + part, x.lost(1, 3, 2, 1, what, part), due[what][part]);
            }
        }
    }

    static void unseenOfEachCell() {
        Sentence.of("Promise 20", "UNSEEN of a CELL: how many GUARDS (what = 0), the least (1), the greatest (2); NONE.");
        GuardCells x = Due.told("c1 0 0;c2 0 0;c6 60 0;");
        x.sees(2, 0);
        int[][] due = {{0, NONE, NONE}, {10, 11, 20}, {50, 11, 60}};
        for (int cell = 0; cell < 3; cell++) {
            for (int what = 0; what <= 2; what++) {
                Due.due("unseen(" + cell + ", " + what + ")", x.unseen(cell, what), due[cell][what]);
            }
        }
    }
}
