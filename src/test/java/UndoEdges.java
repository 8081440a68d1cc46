/** Terms 2 (UNDONE), terms 3 (IMAGES, read anew), and promises 8, 10, 21, 22. */
final class UndoEdges {
    private interface Deed {
        int on(GuardCells x);
    }

    private UndoEdges() {
    }

    /** CALL 0 MOVED, CALL 1 and 2 WAIT; a DRAW was made, a GUARD changed: as many deeds as are known, and more. */
    private static GuardCells town() {
        GuardCells x = Due.told("c3 5 0;c1 0 2;k0;h0;d1;m10;");
        x.seeds(12);
        x.offers(0, 50);
        x.hears(0, 20, 90, 0, 0);
        x.offers(0, 50);
        x.offers(0, 50);
        x.hears(1, 40, 90, 0, 0);
        x.hears(2, 40, 90, 0, 0);
        x.guards(0, 8);
        return x;
    }

    // ---- UNDONE

    static void sixAreKnown() {
        Sentence.of("Terms 2", "(6 are known, older ones are lost)");
        for (int deeds = 0; deeds <= 20; deeds++) {
            GuardCells x = Due.told("c6 0 0;");
            for (int guard = 1; guard <= deeds; guard++) {
                x.guards(0, guard);
            }
            int known = Math.min(deeds, 6);
            Due.due("known of " + deeds, x.count(10), known);
            for (int left = known - 1; left >= 0; left--) {
                Due.due("undo() of " + deeds, x.undo(), left);
                Due.due("GUARD", x.cell(0, 1), deeds - known + left);
            }
            Due.due("no more of " + deeds, x.undo(), GuardCells.STATE);
            Due.due("GUARD stays", x.cell(0, 1), deeds - known);
        }
    }

    static void whatIsUndoneIsGone() {
        Sentence.of("Terms 2", "UNDONE: the latest");
        GuardCells x = Due.told("c6 0 0;");
        for (int guard = 1; guard <= 8; guard++) {
            x.guards(0, guard);
        }
        for (int i = 0; i < 4; i++) {
            x.undo();
        }
        x.guards(0, 50);
        Due.due("known", x.count(10), 3);
        int[] due = {4, 3, 2};
        for (int i = 0; i < due.length; i++) {
            Due.due("undo()", x.undo(), 2 - i);
            Due.due("GUARD", x.cell(0, 1), due[i]);
        }
        Due.due("no more", x.undo(), GuardCells.STATE);
    }

    static void fourKindsOfDeeds() {
        Sentence.of("Terms 2", "the latest offers(), hears(), ends(), guards() that was not refused");
        GuardCells x = Due.told("c1 0 0;c1 0 0;k0;");
        x.offers(0, 50);
        Due.due("offers()", x.count(10), 1);
        x.offers(0, 50);
        Due.due("offers(), not TAKEN", x.count(10), 2);
        x.hears(0, 50, 0, 0, 0);
        Due.due("hears()", x.count(10), 3);
        x.hears(0, 9, 0, 0, 0);
        Due.due("hears(), DROPPED", x.count(10), 4);
        x.offers(1, 50);
        x.ends(0);
        Due.due("ends()", x.count(10), 6);
        Due.due("undo()", x.undo(), 5);
        x.guards(1, 10);
        Due.due("guards()", x.count(10), 6);
    }

    static void othersAreNoDeeds() {
        Sentence.of("Terms 2", "that was not refused");
        GuardCells x = Due.told("c2 0 0;");
        x.offers(0, 50);
        x.offers(1, 50);
        x.offers(0, 101);
        x.hears(1, 0, 0, 0, 0);
        x.hears(0, 0, 1, 0, 0);
        x.ends(1);
        x.guards(0, 0);
        x.guards(0, 21);
        x.guards(1, 0);
        Due.due("refused", x.count(10), 1);
        x.type('c');
        x.tells();
        x.clear();
        x.seeds(5);
        x.sees(1, 1);
        x.forget();
        x.keep(0);
        x.back(1);
        x.cell(0, 0);
        x.call(0, 0);
        x.level(0, 0, 0);
        x.queued(0, 0);
        x.pair(0, 0);
        x.lost(0, 1, 1, 1, 0, 0);
        x.best(0, 1, 1, 1, 5);
        x.unseen(0, 0);
        Due.due("no deeds", x.count(10), 1);
        Due.due("undo()", x.undo(), 0);
        Due.due("CALLS", x.count(1), 0);
    }

    static void allIsAsAhead() {
        Sentence.of("Terms 2", "all that 2 tells (CALLS, who WAITS and since when, all counts, PAIRS, GUARDS, THE SEED) "
                + "is as ahead of it.");
        undone("offers(), by a DRAW", x -> x.offers(0, 70));
        undone("offers(), not TAKEN", x -> x.offers(1, 70));
        undone("hears(), HEARD", x -> x.hears(0, 30, 80, 0, 0));
        undone("hears(), MOVED, another served", x -> x.hears(0, 100, 10, 0, 0));
        undone("hears(), WAITS no more", x -> x.hears(1, 100, 0, 0, 0));
        undone("hears(), DROPPED", x -> x.hears(2, 0, 0, 0, 0));
        undone("ends(), one served", x -> x.ends(0));
        undone("guards()", x -> x.guards(0, 30));
    }

    private static void undone(String name, Deed deed) {
        GuardCells done = town();
        deed.on(done);
        Due.holds(name + ": that it changes something", !Seen.allOf(done).equals(Seen.allOf(town())));
        GuardCells x = town();
        deed.on(x);
        Due.due(name + ": undo()", x.undo(), 5);
        Seen.same(name, Seen.allButUndone(x), Seen.allButUndone(town()));
    }

    private static GuardCells twelveCalls() {
        GuardCells x = Due.told("c3 0 0;c3 0 0;c3 0 0;c3 0 0;k0;h0;d5;m0;");
        for (int call = 0; call < 12; call++) {
            x.offers(call / 3, 50);
            x.hears(call, 60 + call, 61 + call, 62 + call, 63 + call);
        }
        return x;
    }

    static void allTwelveCalls() {
        Sentence.of("Terms 2", "all that 2 tells (CALLS, who WAITS and since when");
        for (int call = 0; call < 12; call++) {
            GuardCells x = twelveCalls();
            x.hears(call, 10, 20, 30, 40);
            Due.due("undo()", x.undo(), 5);
            Seen.same("CALL " + call + " UNDONE", Seen.allButUndone(x), Seen.allButUndone(twelveCalls()));
            GuardCells y = twelveCalls();
            y.keep(0);
            y.hears(call, 10, 20, 30, 40);
            Due.due("back(0)", y.back(0), 12);
            Seen.same("CALL " + call + " by IMAGE", Seen.allButUndone(y), Seen.allButUndone(twelveCalls()));
        }
    }

    private static void moves(GuardCells x, int to) {
        int answer = x.hears(0, to == 0 ? 60 : 0, to == 1 ? 60 : 0, to == 2 ? 60 : 0, to == 3 ? 60 : 0);
        Due.due("MOVES to " + to, answer, 1);
    }

    static void pairsAsAhead() {
        Sentence.of("Terms 2", "all counts, PAIRS, GUARDS, THE SEED) is as ahead of it");
        GuardCells x = Due.told("c1 0 0;c1 0 0;c1 0 0;c1 0 0;k0;h5;d1;m0;");
        x.offers(0, 50);
        moves(x, 1);
        x.keep(0);
        x.undo();
        x.undo();
        Due.due("PAIRS", x.count(11), 0);
        x.offers(3, 50);
        moves(x, 2);
        moves(x, 0);
        x.keep(1);
        int[][] due = {{3, 2, 1}, {2, 0, 1}};
        samePairs(x, due);
        x.back(0);
        samePairs(x, new int[][] {{0, 1, 1}});
        x.back(1);
        samePairs(x, due);
    }

    private static void samePairs(GuardCells x, int[][] due) {
        Due.due("PAIRS", x.count(11), due.length);
        for (int i = 0; i < due.length; i++) {
            for (int what = 0; what < 3; what++) {
                Due.due("pair(" + i + ", " + what + ")", x.pair(i, what), due[i][what]);
            }
        }
    }

    static void sinceWhenTheyWait() {
        Sentence.of("Terms 2", "who WAITS and since when");
        GuardCells x = Due.told("c4 0 0;c1 0 2;k0;h0;d1;");
        x.offers(0, 50);
        x.offers(0, 50);
        x.offers(1, 50);
        x.hears(1, 50, 60, 0, 0);
        x.hears(0, 50, 60, 0, 0);
        Due.due("CALL 1 has WAITED longer", x.queued(1, 0), 1);
        x.hears(1, 50, 0, 0, 0);
        x.hears(1, 50, 60, 0, 0);
        Due.due("CALL 0 has", x.queued(1, 0), 0);
        x.undo();
        Due.due("CALL 1 does not WAIT", x.cell(1, 4), 1);
        x.undo();
        Due.due("CALL 1 has WAITED longer", x.queued(1, 0), 1);
        Due.due("CALL 1 is first", x.ends(2) == 1 ? x.call(1, 0) : -7, 1);
    }

    static void howOftenHeardSince() {
        Sentence.of("Terms 2", "is as ahead of it");
        GuardCells x = Due.told("c1 0 0;c1 0 0;k0;h5;d1;w1;");
        x.offers(0, 50);
        x.hears(0, 50, 60, 0, 0);
        x.hears(0, 50, 60, 0, 0);
        x.undo();
        x.hears(0, 60, 50, 0, 0);
        Due.due("HEARD once since it MOVED: a RETURN", x.call(0, 4), 1);
        x.undo();
        Due.due("no RETURN any more", x.call(0, 4), 0);
        x.hears(0, 50, 60, 0, 0);
        x.hears(0, 60, 50, 0, 0);
        Due.due("HEARD twice since: none", x.call(0, 4), 0);
    }

    static void seedAsAhead() {
        Sentence.of("Terms 2", "GUARDS, THE SEED) is as ahead of it");
        GuardCells x = Due.told("c1 5 0;");
        x.seeds(7);
        x.offers(0, 50);
        x.seeds(8);
        Due.due("undo()", x.undo(), 0);
        Due.due("THE SEED", x.count(7), 7);
    }

    static void undoAnswers() {
        Sentence.of("Promise 10", "UNDONE: how many more may be. STATE: none.");
        GuardCells x = new GuardCells();
        Due.due("a new object", x.undo(), GuardCells.STATE);
        GuardCells y = town();
        for (int left = 5; left >= 0; left--) {
            Due.due("undo()", y.undo(), left);
            Due.due("count(10)", y.count(10), left);
        }
        Due.due("none", y.undo(), GuardCells.STATE);
        y.offers(0, 50);
        Due.due("one", y.undo(), 0);
        Due.due("none", y.undo(), GuardCells.STATE);
    }

    // ---- guards

    static void guardsRange() {
        Sentence.of("Promise 8", "GUARD of a CELL: what it was.");
        for (int channels = 1; channels <= 6; channels++) {
            GuardCells x = Due.told("c6 60 0;c" + channels + " 1 0;");
            Due.due("10 times CHANNELS", x.guards(1, 10 * channels), 1);
            Due.due("0", x.guards(1, 0), 10 * channels);
            Due.due("one beyond", x.guards(1, 10 * channels + 1), GuardCells.BAD);
            Due.due("-1", x.guards(1, -1), GuardCells.BAD);
            Due.due("GUARD", x.cell(1, 1), 0);
            Due.due("of the other", x.cell(0, 1), 60);
        }
    }

    static void guardsState() {
        Sentence.of("Promise 8", "STATE: it is that.");
        GuardCells x = Due.told("c2 5 0;");
        Due.due("as told", x.guards(0, 5), GuardCells.STATE);
        Due.due("another", x.guards(0, 6), 5);
        Due.due("it is that", x.guards(0, 6), GuardCells.STATE);
        Due.due("known", x.count(10), 1);
        x.undo();
        Due.due("as told again", x.guards(0, 5), GuardCells.STATE);
    }

    static void guardsBad() {
        Sentence.of("Promise 8", "BAD");
        for (int cells = 0; cells <= 4; cells++) {
            GuardCells x = Due.told("c1 0 0;".repeat(cells));
            Due.due("CELL -1 of " + cells, x.guards(-1, 5), GuardCells.BAD);
            Due.due("CELL " + cells + " of " + cells, x.guards(cells, 5), GuardCells.BAD);
            // There is no such CELL: that comes first, though 0 is what a CELL would have.
            Due.due("CELL " + cells + ", 0", x.guards(cells, 0), GuardCells.BAD);
        }
    }

    // ---- IMAGES

    static void imagesKeepAll() {
        Sentence.of("Terms 3", "IMAGES 0, 1 keep all that 2 tells (likewise)");
        for (int image = 0; image < 2; image++) {
            GuardCells x = town();
            x.keep(image);
            x.guards(0, 2);
            x.ends(0);
            x.offers(0, 70);
            x.hears(0, 5, 80, 0, 0);
            x.hears(1, 99, 0, 0, 0);
            x.seeds(1);
            Due.due("back()", x.back(image), 3);
            Seen.same("IMAGE " + image, Seen.allButUndone(x), Seen.allButUndone(town()));
        }
    }

    static void imagesAreTwo() {
        Sentence.of("Terms 3", "IMAGES 0, 1");
        GuardCells x = Due.told("c6 0 0;");
        for (int image : new int[] {Integer.MIN_VALUE, -1, 2, Integer.MAX_VALUE}) {
            Due.due("keep(" + image + ")", x.keep(image), GuardCells.BAD);
            Due.due("back(" + image + ")", x.back(image), GuardCells.BAD);
        }
        x.keep(0);
        x.offers(0, 50);
        x.keep(1);
        x.offers(0, 50);
        Due.due("back(0)", x.back(0), 0);
        Due.due("back(1)", x.back(1), 1);
        Due.due("back(0) again", x.back(0), 0);
    }

    static void imagesKeepSinceWhen() {
        Sentence.of("Terms 3", "keep all that 2 tells (likewise)");
        GuardCells x = Due.told("c4 0 0;c1 0 2;k0;h0;d1;w1;");
        x.offers(0, 50);
        x.offers(0, 50);
        x.offers(1, 50);
        x.hears(1, 50, 60, 0, 0);
        x.hears(0, 50, 60, 0, 0);
        x.keep(1);
        x.hears(1, 50, 0, 0, 0);
        x.hears(1, 50, 60, 0, 0);
        x.back(1);
        Due.due("CALL 1 has WAITED longer", x.queued(1, 0), 1);
        x.ends(2);
        x.keep(0);
        x.hears(1, 50, 60, 0, 0);
        x.back(0);
        x.hears(1, 70, 60, 0, 0);
        Due.due("HEARD once since it MOVED: a RETURN", x.call(1, 4), 1);
    }

    static void imagesKeepNothingElse() {
        Sentence.of("Terms 3", "nothing else (nothing can be UNDONE behind back())");
        GuardCells x = town();
        x.sees(1, 1);
        x.type('h');
        x.keep(0);
        Due.due("keep() leaves what can be UNDONE", x.count(10), 6);
        x.offers(0, 50);
        x.keep(1);
        x.sees(2, 1);
        x.type('3');
        Due.due("back()", x.back(0), 3);
        Due.due("SEEN stays", x.count(8), 2);
        Due.due("THE TEXT stays", x.count(9), 2);
        Due.due("none can be UNDONE", x.count(10), 0);
        Due.due("undo()", x.undo(), GuardCells.STATE);
        x.guards(0, 1);
        Due.due("a deed behind back() can", x.undo(), 0);
        Due.due("GUARD as the IMAGE has it", x.cell(0, 1), 8);
        Due.due("nothing ahead of back() can", x.undo(), GuardCells.STATE);
    }

    static void keepAnswers() {
        Sentence.of("Promise 21", "An IMAGE is kept: CALLS.");
        GuardCells x = new GuardCells();
        Due.due("no CELLS", x.keep(0), 0);
        GuardCells y = Due.told("c6 0 0;c6 0 0;");
        for (int calls = 0; calls < 12; calls++) {
            Due.due("keep(0)", y.keep(0), calls);
            y.offers(calls / 6, 50);
        }
        Due.due("keep(1)", y.keep(1), 12);
        Due.due("the latest", y.back(0), 11);
    }

    static void backAnswers() {
        Sentence.of("Promise 22", "All of that becomes as an IMAGE has it: CALLS.");
        GuardCells x = Due.told("c6 0 0;c6 0 0;");
        x.keep(0);
        for (int calls = 0; calls < 12; calls++) {
            x.offers(calls / 6, 50);
        }
        x.keep(1);
        Due.due("none", x.back(0), 0);
        Due.due("CALLS", x.count(1), 0);
        Due.due("twelve", x.back(1), 12);
        Due.due("FULL", x.offers(0, 50), GuardCells.FULL);
        Due.due("again", x.back(1), 12);
    }

    static void backState() {
        Sentence.of("Promise 22", "STATE: none was kept.");
        GuardCells x = Due.told("c6 0 0;");
        x.offers(0, 50);
        Due.due("back(0)", x.back(0), GuardCells.STATE);
        Due.due("back(1)", x.back(1), GuardCells.STATE);
        x.keep(1);
        Due.due("the other", x.back(0), GuardCells.STATE);
        Due.due("refused, it can be UNDONE", x.count(10), 1);
        x.undo();
        Due.due("an IMAGE is not UNDONE", x.back(1), 1);
    }

    // ---- read anew

    private static GuardCells anew(String text) {
        GuardCells x = town();
        x.sees(1, 1);
        x.keep(0);
        x.keep(1);
        Due.holds("tells()", Due.tell(x, text) >= 0);
        return x;
    }

    static void readAnewAsTold() {
        Sentence.of("Terms 3", "(Read anew: as told (what is not told as at first), no CALLS, all counts 0, THE SEED 0, "
                + "nothing SEEN");
        String[] texts = {"", "c3 5 0;c1 0 2;k1;h0;d1;m10;", "w9;", "c1 10 4;c2 1 1;c3 2 2;c4 3 3;"};
        for (String text : texts) {
            GuardCells x = anew(text);
            Seen.same("'" + text + "' anew", Seen.allOf(x), Seen.allOf(Due.told(text)));
        }
    }

    static void readAnewGuard() {
        Sentence.of("Terms 3", "as told (what is not told as at first)");
        GuardCells x = anew("c3 5 0;");
        Due.due("GUARD as told", x.cell(0, 1), 5);
        int[] first = {3, 2, 1, 10, 3};
        for (int i = 0; i < first.length; i++) {
            Due.due("count(" + (i + 2) + ")", x.count(i + 2), first[i]);
        }
        GuardCells y = Due.told("h20;d5;k3;m60;w9;");
        Due.tell(y, "d1;");
        int[] next = {3, 1, 1, 10, 3};
        for (int i = 0; i < next.length; i++) {
            Due.due("count(" + (i + 2) + ")", y.count(i + 2), next[i]);
        }
    }

    static void readAnewNothingSeen() {
        Sentence.of("Terms 3", "nothing SEEN, IMAGES are gone, nothing can be UNDONE");
        GuardCells x = anew("c1 0 0;");
        Due.due("SEEN", x.forget(), 0);
        Due.due("all could be", x.unseen(0, 0), 11);
        Due.due("back(0)", x.back(0), GuardCells.STATE);
        Due.due("back(1)", x.back(1), GuardCells.STATE);
        Due.due("undo()", x.undo(), GuardCells.STATE);
        x.keep(1);
        Due.due("kept anew", x.back(1), 0);
        Due.due("the other is gone", x.back(0), GuardCells.STATE);
    }

    static void readAnewPairs() {
        Sentence.of("Terms 3", "no CALLS, all counts 0");
        String text = "c1 0 0;c1 0 0;c1 0 0;c1 0 0;k0;h5;d1;m0;";
        GuardCells x = Due.told(text);
        x.offers(0, 50);
        moves(x, 1);
        moves(x, 2);
        Due.tell(x, text);
        samePairs(x, new int[0][]);
        x.offers(1, 50);
        moves(x, 2);
        moves(x, 0);
        moves(x, 1);
        samePairs(x, new int[][] {{1, 2, 1}, {2, 0, 1}, {0, 1, 1}});
        // The same ones in the same order are counted anew, too.
        Due.tell(x, text);
        x.offers(1, 50);
        moves(x, 2);
        samePairs(x, new int[][] {{1, 2, 1}});
    }

    static void readAnewByNoItems() {
        Sentence.of("Promise 4", "THE TEXT tells all anew");
        GuardCells x = anew("");
        Due.due("CELLS", x.count(0), 0);
        Due.due("CALLS", x.count(1), 0);
        Due.due("PAIRS", x.count(11), 0);
        Due.due("THE SEED", x.count(7), 0);
        Due.due("UNDONE", x.count(10), 0);
        Due.due("offers()", x.offers(0, 50), GuardCells.BAD);
        Due.due("hears()", x.hears(0, 0, 0, 0, 0), GuardCells.BAD);
        Due.due("back(0)", x.back(0), GuardCells.STATE);
    }
}
