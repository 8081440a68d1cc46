import java.util.function.ToLongFunction;

/** Of each call that is refused, and of each that only asks: nothing has changed. */
final class RefusedEdges {
    private static final String SENTENCE = "Refused, and nothing changes, the first of these: "
            + "BAD (a number is not as told, or there is no such thing), STATE (as told), FULL.";
    private static final int LEAST = Integer.MIN_VALUE, MOST = Integer.MAX_VALUE;
    private static final Unchanged TOWN = new Unchanged(RefusedEdges::town);

    private RefusedEdges() {
    }

    /** A bit of everything: CALLS that MOVED, WAIT, were TURNED away, DROPPED; IMAGE 1, 6 deeds, SEEN, THE TEXT. */
    private static GuardCells town() {
        GuardCells x = Due.told("c3 5 0;c1 0 2;c2 13 1;k0;h0;d1;m10;w2;");
        x.seeds(12);
        x.offers(0, 50);
        x.hears(0, 20, 90, 0, 0);
        x.offers(0, 50);
        x.keep(1);
        x.offers(0, 50);
        x.hears(2, 50, 90, 0, 0);
        x.hears(1, 50, 90, 0, 0);
        x.offers(2, 60);
        x.hears(3, 0, 90, 60, 0);
        x.offers(0, 50);
        x.hears(4, 9, 0, 0, 0);
        x.guards(0, 8);
        x.sees(2, 1);
        x.sees(1, 0);
        Due.type(x, "h2");
        return x;
    }

    /** All numbers but those from least to most that lie just beyond, and the outermost ones. */
    private static int[] beyond(int least, int most) {
        return new int[] {LEAST, least - 1, most + 1, MOST};
    }

    private static void bad(String name, ToLongFunction<GuardCells> call) {
        TOWN.by(name, call, GuardCells.BAD);
    }

    private static void asks(String name, ToLongFunction<GuardCells> call) {
        TOWN.by(name, call, call.applyAsLong(town()));
    }

    /** What could not be seen to change if the town did not have it. */
    static void townHasAll() {
        Sentence.of("Refused", "Refused, and nothing changes");
        GuardCells x = town();
        // THE SEED was 12; there were two DRAWS.
        int[] counts = {3, 4, 0, 1, 0, 10, 2, 1411815354, 2, 2, 6, 1};
        for (int what = 0; what < counts.length; what++) {
            Due.due("count(" + what + ")", x.count(what), counts[what]);
        }
        Due.due("first in the QUEUE", x.queued(1, 0), 2);
        Due.due("second", x.queued(1, 1), 1);
        Due.due("TURNED away", x.cell(1, 9), 1);
        Due.due("DROPPED", x.cell(0, 11), 1);
        Due.due("MOVED", x.cell(1, 10), 1);
        Due.due("CALL 4 is gone", x.call(4, 0), GuardCells.NO);
        Due.due("IMAGE 1", x.back(1), 2);
    }

    // ---- which is the first

    static void badAheadOfFull() {
        Sentence.of("Refused", SENTENCE);
        GuardCells x = fullOfCalls();
        Due.due("no such CELL, and 12", x.offers(3, 50), GuardCells.BAD);
        Due.due("no such value, and 12", x.offers(0, 101), GuardCells.BAD);
        Due.due("12", x.offers(0, 100), GuardCells.FULL);
        GuardCells y = fullOfLetters();
        Due.due("no letter, and 120", y.type(256), GuardCells.BAD);
        Due.due("no letter, and 120", y.type(-1), GuardCells.BAD);
        Due.due("120", y.type(255), GuardCells.FULL);
        GuardCells z = fullOfSeen();
        Due.due("no such f, and 6", z.sees(7, 1), GuardCells.BAD);
        Due.due("no such taken, and 6", z.sees(6, 2), GuardCells.BAD);
        Due.due("6", z.sees(6, 1), GuardCells.FULL);
    }

    static void badAheadOfState() {
        Sentence.of("Refused", "the first of these: BAD (a number is not as told, or there is no such thing), STATE (as told)");
        GuardCells x = Due.told("c1 0 0;");
        Due.due("no such IMAGE, none kept", x.back(2), GuardCells.BAD);
        Due.due("no such IMAGE, none kept", x.back(-1), GuardCells.BAD);
        Due.due("none kept", x.back(1), GuardCells.STATE);
        Due.due("no such CELL", x.guards(1, 0), GuardCells.BAD);
        Due.due("it is that", x.guards(0, 0), GuardCells.STATE);
    }

    // ---- what is told

    static void typeRefused() {
        Sentence.of("Promise 2", "BAD; FULL: 120.");
        for (int letter : beyond(0, 255)) {
            bad("type(" + letter + ")", x -> x.type(letter));
        }
        Unchanged full = new Unchanged(RefusedEdges::fullOfLetters);
        full.by("type(';')", x -> x.type(';'), GuardCells.FULL);
        full.by("type(256)", x -> x.type(256), GuardCells.BAD);
    }

    private static GuardCells fullOfLetters() {
        GuardCells x = town();
        Due.type(x, ";" + " ".repeat(117));
        return x;
    }

    static void tellsFaultChangesNothing() {
        Sentence.of("Promise 4", "nothing changes (THE TEXT stays, too)");
        TOWN.by("tells() of 'h2'", x -> x.tells(), -12);
        String[] texts = {"x", "c7", "c1 0 0;c1 0 0", "h1;d1;k1;m1;w1;h", "c1 0 0;c1 0 0;c1 0 0;c1 0 0;c", "c1 10 0;w10"};
        int[] faults = {0, 1, 13, 15, 28, 9};
        for (int i = 0; i < texts.length; i++) {
            String text = texts[i];
            Unchanged typed = new Unchanged(() -> typed(text));
            typed.by("tells() of '" + text + "'", x -> x.tells(), -10 - faults[i]);
        }
    }

    private static GuardCells typed(String text) {
        GuardCells x = town();
        x.clear();
        Due.type(x, text);
        return x;
    }

    // ---- what is done

    static void offersRefused() {
        Sentence.of("Promise 5", "BAD; FULL: there are 12 (not OFFERED).");
        for (int cell : beyond(0, 2)) {
            bad("offers(" + cell + ", 50)", x -> x.offers(cell, 50));
        }
        for (int value : beyond(0, 100)) {
            bad("offers(0, " + value + ")", x -> x.offers(0, value));
        }
        Unchanged full = new Unchanged(RefusedEdges::fullOfCalls);
        full.by("offers(2, 50)", x -> x.offers(2, 50), GuardCells.FULL);
        full.by("offers(0, 50)", x -> x.offers(0, 50), GuardCells.FULL);
        full.by("offers(3, 50)", x -> x.offers(3, 50), GuardCells.BAD);
    }

    /** 12 CALLS, the last CELL empty, its CHANCE 5. */
    private static GuardCells fullOfCalls() {
        GuardCells x = Due.told("c6 0 0;c6 0 0;c6 55 0;");
        for (int call = 0; call < 12; call++) {
            x.offers(call / 6, 50);
        }
        return x;
    }

    static void hearsRefused() {
        Sentence.of("Promise 6", "BAD.");
        for (int call : new int[] {LEAST, -1, 4, 11, 12, MOST}) {
            bad("hears(" + call + ", ..)", x -> x.hears(call, 50, 50, 50, 0));
        }
        for (int value : beyond(0, 100)) {
            bad("hears(0, " + value + ", 50, 50, 0)", x -> x.hears(0, value, 50, 50, 0));
            bad("hears(0, 50, " + value + ", 50, 0)", x -> x.hears(0, 50, value, 50, 0));
            bad("hears(0, 50, 50, " + value + ", 0)", x -> x.hears(0, 50, 50, value, 0));
        }
        for (int value : new int[] {LEAST, -1, 1, 100, 101, MOST}) {
            bad("hears(0, 50, 50, 50, " + value + ")", x -> x.hears(0, 50, 50, 50, value));
        }
    }

    static void endsRefused() {
        Sentence.of("Promise 7", "BAD.");
        for (int call : new int[] {LEAST, -1, 4, 11, 12, MOST}) {
            bad("ends(" + call + ")", x -> x.ends(call));
        }
    }

    static void guardsRefused() {
        Sentence.of("Promise 8", "BAD; STATE: it is that.");
        for (int cell : beyond(0, 2)) {
            bad("guards(" + cell + ", 5)", x -> x.guards(cell, 5));
        }
        int[] channels = {3, 1, 2};
        for (int cell = 0; cell < 3; cell++) {
            int which = cell;
            for (int guard : beyond(0, 10 * channels[cell])) {
                bad("guards(" + cell + ", " + guard + ")", x -> x.guards(which, guard));
            }
        }
        TOWN.by("guards(0, 8)", x -> x.guards(0, 8), GuardCells.STATE);
        TOWN.by("guards(2, 13)", x -> x.guards(2, 13), GuardCells.STATE);
    }

    static void undoRefused() {
        Sentence.of("Promise 10", "STATE: none.");
        Unchanged none = new Unchanged(RefusedEdges::nothingToUndo);
        none.by("undo()", x -> x.undo(), GuardCells.STATE);
        new Unchanged(GuardCells::new).by("undo() of a new object", x -> x.undo(), GuardCells.STATE);
    }

    private static GuardCells nothingToUndo() {
        GuardCells x = town();
        for (int i = 0; i < 6; i++) {
            x.undo();
        }
        return x;
    }

    // ---- asked

    static void cellChangesNothing() {
        Sentence.of("Promise 11", "Of a CELL: 0 CHANNELS");
        for (int what = 0; what <= 11; what++) {
            int which = what;
            asks("cell(1, " + what + ")", x -> x.cell(1, which));
        }
        for (int cell : beyond(0, 2)) {
            bad("cell(" + cell + ", 0)", x -> x.cell(cell, 0));
        }
        for (int what : beyond(0, 11)) {
            bad("cell(0, " + what + ")", x -> x.cell(0, what));
        }
    }

    static void callChangesNothing() {
        Sentence.of("Promise 12", "NO: BAD.");
        for (int what = 0; what <= 6; what++) {
            int which = what;
            asks("call(1, " + what + ")", x -> x.call(1, which));
        }
        for (int call : new int[] {LEAST, -1, 4, 11, 12, MOST}) {
            TOWN.by("call(" + call + ", 0)", x -> x.call(call, 0), GuardCells.NO);
        }
        for (int what : beyond(0, 6)) {
            TOWN.by("call(0, " + what + ")", x -> x.call(0, what), GuardCells.NO);
        }
    }

    static void levelChangesNothing() {
        Sentence.of("Promise 13", "BAD.");
        asks("level(1, 1, 0)", x -> x.level(1, 1, 0));
        asks("level(1, 1, 1)", x -> x.level(1, 1, 1));
        for (int call : new int[] {LEAST, -1, 4, 11, 12, MOST}) {
            bad("level(" + call + ", 0, 0)", x -> x.level(call, 0, 0));
        }
        for (int cell : beyond(0, 2)) {
            bad("level(0, " + cell + ", 0)", x -> x.level(0, cell, 0));
        }
        for (int way : beyond(0, 1)) {
            bad("level(0, 0, " + way + ")", x -> x.level(0, 0, way));
        }
    }

    static void queuedChangesNothing() {
        Sentence.of("Promise 14", "BAD.");
        asks("queued(1, 0)", x -> x.queued(1, 0));
        asks("queued(1, 1)", x -> x.queued(1, 1));
        TOWN.by("queued(1, 2)", x -> x.queued(1, 2), GuardCells.NONE);
        TOWN.by("queued(1, most)", x -> x.queued(1, MOST), GuardCells.NONE);
        for (int cell : beyond(0, 2)) {
            bad("queued(" + cell + ", 0)", x -> x.queued(cell, 0));
        }
        bad("queued(1, -1)", x -> x.queued(1, -1));
        bad("queued(1, least)", x -> x.queued(1, LEAST));
    }

    static void pairChangesNothing() {
        Sentence.of("Promise 15", "BAD.");
        asks("pair(0, 2)", x -> x.pair(0, 2));
        TOWN.by("pair(1, 0)", x -> x.pair(1, 0), GuardCells.NONE);
        TOWN.by("pair(most, 0)", x -> x.pair(MOST, 0), GuardCells.NONE);
        bad("pair(-1, 0)", x -> x.pair(-1, 0));
        bad("pair(least, 0)", x -> x.pair(LEAST, 0));
        for (int what : beyond(0, 2)) {
            bad("pair(0, " + what + ")", x -> x.pair(0, what));
        }
    }

    static void countChangesNothing() {
        Sentence.of("Promise 23", "NO: BAD.");
        for (int what = 0; what <= 11; what++) {
            int which = what;
            asks("count(" + what + ")", x -> x.count(which));
        }
        for (int what : beyond(0, 11)) {
            TOWN.by("count(" + what + ")", x -> x.count(what), GuardCells.NO);
        }
    }

    // ---- in the long run

    static void longRunChangesNothing() {
        Sentence.of("Terms 3", "(Nothing is changed.)");
        for (int what = 0; what <= 2; what++) {
            int which = what;
            asks("lost(0, 3, 2, 1, " + what + ", 0)", x -> x.lost(0, 3, 2, 1, which, 0));
        }
        asks("lost(2, 9, 9, 9, 0, 1)", x -> x.lost(2, 9, 9, 9, 0, 1));
        asks("best(0, 3, 2, 1, 10)", x -> x.best(0, 3, 2, 1, 10));
        TOWN.by("best(1, 9, 9, 1, 1000)", x -> x.best(1, 9, 9, 1, 1000), GuardCells.NONE);
    }

    static void lostRefused() {
        Sentence.of("Promise 16", "BAD.");
        for (int cell : beyond(0, 2)) {
            bad("lost(" + cell + ", ..)", x -> x.lost(cell, 1, 1, 1, 0, 0));
        }
        for (int rate : beyond(0, 9)) {
            bad("lost(), a " + rate, x -> x.lost(0, rate, 1, 1, 0, 0));
            bad("lost(), b " + rate, x -> x.lost(0, 1, rate, 1, 0, 0));
        }
        for (int rate : beyond(1, 9)) {
            bad("lost(), c " + rate, x -> x.lost(0, 1, 1, rate, 0, 0));
        }
        for (int what : beyond(0, 2)) {
            bad("lost(), what " + what, x -> x.lost(0, 1, 1, 1, what, 0));
        }
        for (int part : beyond(0, 1)) {
            bad("lost(), part " + part, x -> x.lost(0, 1, 1, 1, 0, part));
        }
    }

    static void bestRefused() {
        Sentence.of("Promise 17", "BAD.");
        for (int cell : beyond(0, 2)) {
            bad("best(" + cell + ", ..)", x -> x.best(cell, 1, 1, 1, 5));
        }
        for (int rate : beyond(0, 9)) {
            bad("best(), a " + rate, x -> x.best(0, rate, 1, 1, 5));
            bad("best(), b " + rate, x -> x.best(0, 1, rate, 1, 5));
        }
        for (int rate : beyond(1, 9)) {
            bad("best(), c " + rate, x -> x.best(0, 1, 1, rate, 5));
        }
        for (int n : beyond(1, 1000)) {
            bad("best(), n " + n, x -> x.best(0, 1, 1, 1, n));
        }
    }

    // ---- which guard

    static void seesRefused() {
        Sentence.of("Promise 18", "BAD; FULL: 6.");
        for (int f : beyond(0, 6)) {
            bad("sees(" + f + ", 1)", x -> x.sees(f, 1));
        }
        for (int taken : beyond(0, 1)) {
            bad("sees(1, " + taken + ")", x -> x.sees(1, taken));
        }
        Unchanged full = new Unchanged(RefusedEdges::fullOfSeen);
        full.by("sees(0, 1)", x -> x.sees(0, 1), GuardCells.FULL);
        full.by("sees(7, 1)", x -> x.sees(7, 1), GuardCells.BAD);
    }

    private static GuardCells fullOfSeen() {
        GuardCells x = town();
        for (int i = 0; i < 4; i++) {
            x.sees(0, 0);
        }
        return x;
    }

    static void unseenChangesNothing() {
        Sentence.of("Promise 20", "BAD.");
        for (int what = 0; what <= 2; what++) {
            int which = what;
            asks("unseen(0, " + what + ")", x -> x.unseen(0, which));
        }
        for (int cell : beyond(0, 2)) {
            bad("unseen(" + cell + ", 0)", x -> x.unseen(cell, 0));
        }
        for (int what : beyond(0, 2)) {
            bad("unseen(0, " + what + ")", x -> x.unseen(0, what));
        }
    }

    // ---- images

    static void keepRefused() {
        Sentence.of("Promise 21", "BAD.");
        for (int image : beyond(0, 1)) {
            bad("keep(" + image + ")", x -> x.keep(image));
        }
    }

    static void backRefused() {
        Sentence.of("Promise 22", "BAD; STATE: none was kept.");
        for (int image : beyond(0, 1)) {
            bad("back(" + image + ")", x -> x.back(image));
        }
        // IMAGE 1 is kept, IMAGE 0 is not.
        TOWN.by("back(0)", x -> x.back(0), GuardCells.STATE);
    }
}
