import java.util.Arrays;

/** Calls that move from cell to cell, with channels held back from new calls; ../shared/DOC.md tells the promises. */
public final class GuardCells {
    public static final int BAD = -1, STATE = -2, FULL = -3, NONE = -9, NO = -1000000;

    private static final int MOST_LETTERS = 120;
    private static final int MOST_CELLS = 4;
    private static final int MOST_CHANNELS = 6;
    private static final int MOST_PLACES = 4;
    private static final int MOST_CALLS = 12;
    private static final int MOST_PAIRS = 12;
    private static final int MOST_UNDONE = 6;
    private static final int MOST_SEEN = 6;
    private static final int MOST_IMAGES = 2;
    private static final int MOST_VALUE = 100;
    private static final int MOST_RATE = 9;
    private static final int MOST_ONE_IN = 1000;

    /** A LEVEL is told in 64ths. */
    private static final int UNIT = 64;
    /** Tenths in a whole CHANNEL, and the CHANCE of what is certain. */
    private static final int TENTHS = 10;

    private static final int HYSTERESIS = 0, DWELL = 1, FILTER = 2, NEED = 3, WINDOW = 4, SETTINGS = 5;
    private static final char[] SETTING_LETTER = {'h', 'd', 'k', 'm', 'w'};
    private static final int[] SETTING_LEAST = {0, 1, 0, 0, 1};
    private static final int[] SETTING_MOST = {20, 5, 3, 60, 9};
    private static final int[] SETTING_FIRST = {3, 2, 1, 10, 3};

    private static final int OFFERED = 0, TAKEN = 1, ASKED = 2, TURNED = 3, MOVED = 4, DROPPED = 5, TALLIES = 6;

    private static final int HEARD_NOTHING = 0, HEARD_MOVED = 1, HEARD_WAITS = 2, HEARD_TURNED = 3, HEARD_DROPPED = 4;

    private final Reader reader = new Reader();
    private final Told told = new Told();
    private final Traffic now = new Traffic();
    private final Exchange exchange = new Exchange(told, now);
    private final History history = new History();
    private final Images images = new Images();
    private final LongRun longRun = new LongRun();
    private final Sightings sightings = new Sightings();

    public GuardCells() {
    }

    // ---- what is told

    public int type(int letter) {
        if (!within(letter, 0, 255)) {
            return BAD;
        }
        return reader.append(letter) ? reader.length : FULL;
    }

    public int clear() {
        int had = reader.length;
        reader.length = 0;
        return had;
    }

    public int tells() {
        int items = reader.read();
        if (items < 0) {
            return items;
        }
        reader.length = 0;
        told.copyFrom(reader.draft);
        now.begin(told);
        history.forgetAll();
        images.forgetAll();
        sightings.many = 0;
        return items;
    }

    // ---- what is done

    public int offers(int cell, int value) {
        if (!told.has(cell) || !within(value, 0, MOST_VALUE)) {
            return BAD;
        }
        if (now.lowestAbsent() == NONE) {
            return FULL;
        }
        history.remember(now);
        return exchange.offer(cell, value);
    }

    public int hears(int call, int a, int b, int c, int d) {
        if (!now.has(call) || !canHear(0, a) || !canHear(1, b) || !canHear(2, c) || !canHear(3, d)) {
            return BAD;
        }
        history.remember(now);
        exchange.setValues(a, b, c, d);
        return exchange.hear(call);
    }

    public int ends(int call) {
        if (!now.has(call)) {
            return BAD;
        }
        history.remember(now);
        return exchange.end(call);
    }

    public int guards(int cell, int guard) {
        if (!told.has(cell) || !within(guard, 0, told.mostGuard(cell))) {
            return BAD;
        }
        int was = now.guard[cell];
        if (was == guard) {
            return STATE;
        }
        history.remember(now);
        now.guard[cell] = guard;
        return was;
    }

    public int seeds(int x) {
        int was = now.seed;
        now.seed = x;
        return was;
    }

    public int undo() {
        return history.bringBack(now) ? history.known : STATE;
    }

    // ---- asked

    public int cell(int cell, int what) {
        if (!told.has(cell)) {
            return BAD;
        }
        switch (what) {
            case 0:
                return told.channels[cell];
            case 1:
                return now.guard[cell];
            case 2:
                return told.places[cell];
            case 3:
                return now.busy(cell);
            case 4:
                return now.waiting(cell);
            case 5:
                return exchange.chanceOf(cell);
            default:
                return within(what, 6, 11) ? now.tally[cell * TALLIES + what - 6] : BAD;
        }
    }

    public int call(int call, int what) {
        if (!now.has(call)) {
            return NO;
        }
        switch (what) {
            case 0:
                return now.own[call];
            case 1:
                return now.waitsFor[call];
            case 2:
                return now.heard[call];
            case 3:
                return now.moves[call];
            case 4:
                return now.returns[call];
            case 5:
                return now.fall[call];
            case 6:
                return now.cameFrom[call];
            default:
                return NO;
        }
    }

    public int level(int call, int cell, int way) {
        if (!now.has(call) || !told.has(cell) || !within(way, 0, 1)) {
            return BAD;
        }
        int at = call * MOST_CELLS + cell;
        return way == 0 ? now.levels[at] : now.streaks[at];
    }

    public int queued(int cell, int i) {
        if (!told.has(cell) || i < 0) {
            return BAD;
        }
        return exchange.waiter(cell, i);
    }

    public int pair(int i, int what) {
        if (i < 0 || !within(what, 0, 2)) {
            return BAD;
        }
        if (i >= now.pairs || i >= MOST_PAIRS) {
            return NONE;
        }
        if (what == 0) {
            return now.pairFrom[i];
        }
        return what == 1 ? now.pairTo[i] : now.pairMoves[i];
    }

    // ---- in the long run

    public long lost(int cell, int a, int b, int c, int what, int part) {
        if (!told.has(cell) || !areRates(a, b, c) || !within(what, 0, 2) || !within(part, 0, 1)) {
            return BAD;
        }
        longRun.weigh(told.channels[cell], now.guard[cell], a, b, c);
        long upper = longRun.upper(what);
        long lower = longRun.lower(what);
        long common = commonDivisor(upper, lower);
        if (common <= 0) {
            return BAD;
        }
        return (part == 0 ? upper : lower) / common;
    }

    public int best(int cell, int a, int b, int c, int n) {
        if (!told.has(cell) || !areRates(a, b, c) || !within(n, 1, MOST_ONE_IN)) {
            return BAD;
        }
        int most = told.mostGuard(cell);
        for (int guard = 0; guard <= most; guard++) {
            longRun.weigh(told.channels[cell], guard, a, b, c);
            if (longRun.losesMovingAtMostOnceIn(n)) {
                return guard;
            }
        }
        return NONE;
    }

    // ---- which guard

    public int sees(int f, int taken) {
        if (!within(f, 0, MOST_CHANNELS) || !within(taken, 0, 1)) {
            return BAD;
        }
        return sightings.add(f, taken) ? sightings.many : FULL;
    }

    public int forget() {
        int was = sightings.many;
        sightings.many = 0;
        return was;
    }

    public int unseen(int cell, int what) {
        if (!told.has(cell) || !within(what, 0, 2)) {
            return BAD;
        }
        int many = 0;
        int least = NONE;
        int greatest = NONE;
        int most = told.mostGuard(cell);
        for (int guard = 0; guard <= most; guard++) {
            if (sightings.allow(guard)) {
                many++;
                least = least == NONE ? guard : least;
                greatest = guard;
            }
        }
        if (what == 0) {
            return many;
        }
        return what == 1 ? least : greatest;
    }

    // ---- images

    public int keep(int image) {
        if (!within(image, 0, MOST_IMAGES - 1)) {
            return BAD;
        }
        images.store(image, now);
        return now.present();
    }

    public int back(int image) {
        if (!within(image, 0, MOST_IMAGES - 1)) {
            return BAD;
        }
        if (!images.bringBack(image, now)) {
            return STATE;
        }
        history.forgetAll();
        return now.present();
    }

    public int count(int what) {
        switch (what) {
            case 0:
                return told.cells;
            case 1:
                return now.present();
            case 7:
                return now.seed;
            case 8:
                return sightings.many;
            case 9:
                return reader.length;
            case 10:
                return history.known;
            case 11:
                return now.pairs;
            default:
                return within(what, 2, 6) ? told.setting[what - 2] : NO;
        }
    }

    // ---- what several of them need

    private static boolean within(int number, int least, int most) {
        return number >= least && number <= most;
    }

    private static boolean areRates(int a, int b, int c) {
        return within(a, 0, MOST_RATE) && within(b, 0, MOST_RATE) && within(c, 1, MOST_RATE);
    }

    private boolean canHear(int cell, int value) {
        return within(value, 0, told.has(cell) ? MOST_VALUE : 0);
    }

    private static int chance(int free, int guard) {
        return Math.max(0, Math.min(TENTHS, TENTHS * free - guard));
    }

    private static long commonDivisor(long one, long other) {
        long a = one;
        long b = other;
        // Two longs need fewer than a hundred steps.
        for (int step = 0; step < 200 && b != 0; step++) {
            long rest = a % b;
            a = b;
            b = rest;
        }
        return a;
    }

    /** CELLS as they were told, and the five numbers. */
    private static final class Told {
        private int cells;
        private final int[] channels = new int[MOST_CELLS];
        private final int[] guard = new int[MOST_CELLS];
        private final int[] places = new int[MOST_CELLS];
        private final int[] setting = new int[SETTINGS];

        private Told() {
            begin();
        }

        private void begin() {
            cells = 0;
            System.arraycopy(SETTING_FIRST, 0, setting, 0, SETTINGS);
        }

        private void copyFrom(Told other) {
            cells = other.cells;
            System.arraycopy(other.channels, 0, channels, 0, MOST_CELLS);
            System.arraycopy(other.guard, 0, guard, 0, MOST_CELLS);
            System.arraycopy(other.places, 0, places, 0, MOST_CELLS);
            System.arraycopy(other.setting, 0, setting, 0, SETTINGS);
        }

        private boolean has(int cell) {
            return cell >= 0 && cell < cells && cell < MOST_CELLS;
        }

        private int mostGuard(int cell) {
            return TENTHS * channels[cell];
        }
    }

    /** THE TEXT, and how it is read into a draft that counts only if there is no FAULT. */
    private static final class Reader {
        private static final int END = 0, LETTER = 1, NUMBER = 2, STOP = 3, STRANGE = 4;
        private static final int MOST_NUMBER = 99;
        private static final int FAULT_AT_START = -10;

        private final int[] letters = new int[MOST_LETTERS];
        private int length;
        private final Told draft = new Told();
        private final int[] timesTold = new int[SETTINGS];
        private int at;
        private int start;
        private int kind;
        private int value;

        private boolean append(int letter) {
            if (length >= MOST_LETTERS) {
                return false;
            }
            letters[length] = letter;
            length++;
            return true;
        }

        /** How many ITEMS, or -10 less FAULT. */
        private int read() {
            draft.begin();
            Arrays.fill(timesTold, 0);
            at = 0;
            int items = 0;
            nextToken();
            while (kind != END && items < MOST_LETTERS) {
                boolean stands = kind == LETTER && (value == 'c' ? readCell() : readSetting(settingOf(value)));
                if (!stands) {
                    return FAULT_AT_START - start;
                }
                items++;
                nextToken();
            }
            return items;
        }

        private boolean readCell() {
            int cell = draft.cells;
            if (cell >= MOST_CELLS || !readNumber(1, MOST_CHANNELS)) {
                return false;
            }
            draft.channels[cell] = value;
            if (!readNumber(0, draft.mostGuard(cell))) {
                return false;
            }
            draft.guard[cell] = value;
            if (!readNumber(0, MOST_PLACES)) {
                return false;
            }
            draft.places[cell] = value;
            draft.cells = cell + 1;
            return readStop();
        }

        private boolean readSetting(int which) {
            if (which == NONE || timesTold[which] > 0) {
                return false;
            }
            timesTold[which]++;
            if (!readNumber(SETTING_LEAST[which], SETTING_MOST[which])) {
                return false;
            }
            draft.setting[which] = value;
            return readStop();
        }

        private boolean readNumber(int least, int most) {
            nextToken();
            return kind == NUMBER && within(value, least, most);
        }

        private boolean readStop() {
            nextToken();
            return kind == STOP;
        }

        /** Leaves in start the TOKEN's first place, or the text's length at its end: FAULT, if it can't stand there. */
        private void nextToken() {
            while (at < length && letters[at] == ' ') {
                at++;
            }
            start = at;
            if (at >= length) {
                kind = END;
                return;
            }
            if (isFigure(letters[at])) {
                scanNumber();
                return;
            }
            value = letters[at];
            kind = kindOf(value);
            at++;
        }

        private void scanNumber() {
            value = 0;
            while (at < length && isFigure(letters[at])) {
                // Once above 99 it stays above, and does not grow beyond an int.
                value = Math.min(value, MOST_NUMBER + 1) * 10 + letters[at] - '0';
                at++;
            }
            boolean zeroAhead = letters[start] == '0' && at - start > 1;
            kind = zeroAhead || value > MOST_NUMBER ? STRANGE : NUMBER;
        }

        private static boolean isFigure(int letter) {
            return letter >= '0' && letter <= '9';
        }

        private static int kindOf(int letter) {
            if (letter == ';') {
                return STOP;
            }
            return letter == 'c' || settingOf(letter) != NONE ? LETTER : STRANGE;
        }

        private static int settingOf(int letter) {
            for (int which = 0; which < SETTINGS; which++) {
                if (SETTING_LETTER[which] == letter) {
                    return which;
                }
            }
            return NONE;
        }
    }

    /** All that deeds change: what is known for undo and what images keep. */
    private static final class Traffic {
        private int seed;
        /** Counts who began to WAIT, so that who has WAITED longer can be told. */
        private int waits;
        private final int[] guard = new int[MOST_CELLS];
        private final int[] tally = new int[MOST_CELLS * TALLIES];

        /** NONE: there is no such CALL. */
        private final int[] own = new int[MOST_CALLS];
        private final int[] waitsFor = new int[MOST_CALLS];
        private final int[] waitsSince = new int[MOST_CALLS];
        private final int[] heard = new int[MOST_CALLS];
        private final int[] heardSinceMove = new int[MOST_CALLS];
        private final int[] moves = new int[MOST_CALLS];
        private final int[] returns = new int[MOST_CALLS];
        private final int[] fall = new int[MOST_CALLS];
        private final int[] cameFrom = new int[MOST_CALLS];
        private final int[] levels = new int[MOST_CALLS * MOST_CELLS];
        private final int[] streaks = new int[MOST_CALLS * MOST_CELLS];

        private int pairs;
        private final int[] pairFrom = new int[MOST_PAIRS];
        private final int[] pairTo = new int[MOST_PAIRS];
        private final int[] pairMoves = new int[MOST_PAIRS];

        private Traffic() {
            clearCalls();
        }

        private void begin(Told told) {
            seed = 0;
            waits = 0;
            pairs = 0;
            System.arraycopy(told.guard, 0, guard, 0, MOST_CELLS);
            Arrays.fill(tally, 0);
            clearCalls();
        }

        private void clearCalls() {
            Arrays.fill(own, NONE);
            Arrays.fill(waitsFor, NONE);
        }

        private void copyFrom(Traffic other) {
            seed = other.seed;
            waits = other.waits;
            pairs = other.pairs;
            System.arraycopy(other.guard, 0, guard, 0, MOST_CELLS);
            System.arraycopy(other.tally, 0, tally, 0, MOST_CELLS * TALLIES);
            System.arraycopy(other.own, 0, own, 0, MOST_CALLS);
            System.arraycopy(other.waitsFor, 0, waitsFor, 0, MOST_CALLS);
            System.arraycopy(other.waitsSince, 0, waitsSince, 0, MOST_CALLS);
            System.arraycopy(other.heard, 0, heard, 0, MOST_CALLS);
            System.arraycopy(other.heardSinceMove, 0, heardSinceMove, 0, MOST_CALLS);
            System.arraycopy(other.moves, 0, moves, 0, MOST_CALLS);
            System.arraycopy(other.returns, 0, returns, 0, MOST_CALLS);
            System.arraycopy(other.fall, 0, fall, 0, MOST_CALLS);
            System.arraycopy(other.cameFrom, 0, cameFrom, 0, MOST_CALLS);
            System.arraycopy(other.levels, 0, levels, 0, MOST_CALLS * MOST_CELLS);
            System.arraycopy(other.streaks, 0, streaks, 0, MOST_CALLS * MOST_CELLS);
            System.arraycopy(other.pairFrom, 0, pairFrom, 0, MOST_PAIRS);
            System.arraycopy(other.pairTo, 0, pairTo, 0, MOST_PAIRS);
            System.arraycopy(other.pairMoves, 0, pairMoves, 0, MOST_PAIRS);
        }

        private boolean has(int call) {
            return call >= 0 && call < MOST_CALLS && own[call] != NONE;
        }

        private int present() {
            return MOST_CALLS - callsOf(own, NONE);
        }

        private int lowestAbsent() {
            for (int call = 0; call < MOST_CALLS; call++) {
                if (own[call] == NONE) {
                    return call;
                }
            }
            return NONE;
        }

        private int busy(int cell) {
            return callsOf(own, cell);
        }

        private int waiting(int cell) {
            return callsOf(waitsFor, cell);
        }

        private static int callsOf(int[] row, int cell) {
            int many = 0;
            for (int call = 0; call < row.length; call++) {
                many += row[call] == cell ? 1 : 0;
            }
            return many;
        }

        private void tallyOne(int cell, int kind) {
            tally[cell * TALLIES + kind]++;
        }

        private void appear(int call, int cell, int value) {
            own[call] = cell;
            waitsFor[call] = NONE;
            waitsSince[call] = 0;
            heard[call] = 0;
            heardSinceMove[call] = 0;
            moves[call] = 0;
            returns[call] = 0;
            fall[call] = 0;
            cameFrom[call] = NONE;
            for (int by = 0; by < MOST_CELLS; by++) {
                levels[call * MOST_CELLS + by] = by == cell ? UNIT * value : 0;
            }
            clearStreaks(call);
        }

        private void clearStreaks(int call) {
            for (int by = 0; by < MOST_CELLS; by++) {
                streaks[call * MOST_CELLS + by] = 0;
            }
        }

        private void beginWaiting(int call, int cell) {
            waitsFor[call] = cell;
            waitsSince[call] = waits;
            waits++;
        }

        private int ownLevel(int call) {
            return levels[call * MOST_CELLS + own[call]];
        }

        private void countPair(int from, int to) {
            for (int i = 0; i < pairs && i < MOST_PAIRS; i++) {
                if (pairFrom[i] == from && pairTo[i] == to) {
                    pairMoves[i]++;
                    return;
                }
            }
            if (pairs < MOST_PAIRS) {
                pairFrom[pairs] = from;
                pairTo[pairs] = to;
                pairMoves[pairs] = 1;
                pairs++;
            }
        }
    }

    /** The deeds: how CALLS are taken, heard, moved, dropped and ended. */
    private static final class Exchange {
        private final Told told;
        private final Traffic now;
        private final int[] values = new int[MOST_CELLS];
        /** In the order in which they were FREED: a deed frees one CELL itself, and one for each CALL that WAITED. */
        private final int[] freed = new int[1 + MOST_CALLS];
        private int freedMany;

        private Exchange(Told told, Traffic now) {
            this.told = told;
            this.now = now;
        }

        private int free(int cell) {
            return told.channels[cell] - now.busy(cell);
        }

        private int chanceOf(int cell) {
            return chance(free(cell), now.guard[cell]);
        }

        private int offer(int cell, int value) {
            now.tallyOne(cell, OFFERED);
            int call = now.lowestAbsent();
            if (call == NONE || !isTaken(chanceOf(cell))) {
                return NONE;
            }
            now.tallyOne(cell, TAKEN);
            now.appear(call, cell, value);
            return call;
        }

        private boolean isTaken(int chance) {
            if (chance == 0 || chance == TENTHS) {
                return chance == TENTHS;
            }
            return draw() < chance;
        }

        private int draw() {
            now.seed = now.seed * 69069 + 1;
            return (now.seed >>> 16) % 10;
        }

        private void setValues(int a, int b, int c, int d) {
            values[0] = a;
            values[1] = b;
            values[2] = c;
            values[3] = d;
        }

        private int hear(int call) {
            now.heard[call]++;
            now.heardSinceMove[call]++;
            smoothLevels(call);
            countStreaks(call);
            int answer = follow(call, targetOf(call));
            if (answer != HEARD_MOVED && now.ownLevel(call) < UNIT * told.setting[NEED]) {
                now.tallyOne(now.own[call], DROPPED);
                vanish(call);
                answer = HEARD_DROPPED;
            }
            serveFreed();
            return answer;
        }

        private void smoothLevels(int call) {
            int before = now.ownLevel(call);
            int filter = told.setting[FILTER];
            int weight = (1 << filter) - 1;
            for (int cell = 0; cell < told.cells && cell < MOST_CELLS; cell++) {
                int at = call * MOST_CELLS + cell;
                now.levels[at] = (now.levels[at] * weight + UNIT * values[cell]) >> filter;
            }
            now.fall[call] = before - now.ownLevel(call);
        }

        private void countStreaks(int call) {
            int enough = now.ownLevel(call) + UNIT * told.setting[HYSTERESIS];
            for (int cell = 0; cell < told.cells && cell < MOST_CELLS; cell++) {
                int at = call * MOST_CELLS + cell;
                boolean better = cell != now.own[call] && now.levels[at] >= enough;
                now.streaks[at] = better ? now.streaks[at] + 1 : 0;
            }
        }

        private int targetOf(int call) {
            int target = NONE;
            int greatest = -1;
            for (int cell = 0; cell < told.cells && cell < MOST_CELLS; cell++) {
                int at = call * MOST_CELLS + cell;
                if (now.streaks[at] >= told.setting[DWELL] && now.levels[at] > greatest) {
                    target = cell;
                    greatest = now.levels[at];
                }
            }
            return target;
        }

        private int follow(int call, int target) {
            if (now.waitsFor[call] != target) {
                now.waitsFor[call] = NONE;
            }
            if (target == NONE) {
                return HEARD_NOTHING;
            }
            return now.waitsFor[call] == target ? HEARD_WAITS : ask(call, target);
        }

        private int ask(int call, int target) {
            now.tallyOne(target, ASKED);
            if (free(target) > 0) {
                move(call, target);
                return HEARD_MOVED;
            }
            if (now.waiting(target) < told.places[target]) {
                now.beginWaiting(call, target);
                return HEARD_WAITS;
            }
            now.tallyOne(target, TURNED);
            return HEARD_TURNED;
        }

        private int end(int call) {
            vanish(call);
            return serveFreed();
        }

        private void vanish(int call) {
            int cell = now.own[call];
            now.own[call] = NONE;
            now.waitsFor[call] = NONE;
            noteFreed(cell);
        }

        private void move(int call, int to) {
            int from = now.own[call];
            boolean soon = now.heardSinceMove[call] <= told.setting[WINDOW];
            if (now.cameFrom[call] == to && soon) {
                now.returns[call]++;
            }
            now.own[call] = to;
            now.waitsFor[call] = NONE;
            now.cameFrom[call] = from;
            now.heardSinceMove[call] = 0;
            now.moves[call]++;
            now.fall[call] = 0;
            now.clearStreaks(call);
            now.tallyOne(to, MOVED);
            now.countPair(from, to);
            noteFreed(from);
        }

        private void noteFreed(int cell) {
            if (freedMany < freed.length) {
                freed[freedMany] = cell;
                freedMany++;
            }
        }

        /** How many CALLS MOVED by that: each step serves a CALL that WAITED, or leaves a CELL behind. */
        private int serveFreed() {
            int moved = 0;
            int served = 0;
            for (int step = 0; step <= 2 * MOST_CALLS && served < freedMany && served < freed.length; step++) {
                int cell = freed[served];
                int first = free(cell) > 0 ? waiter(cell, 0) : NONE;
                if (first == NONE) {
                    served++;
                } else {
                    move(first, cell);
                    moved++;
                }
            }
            freedMany = 0;
            return moved;
        }

        /** The CALL that WAITS for a CELL with just so many ahead of it. */
        private int waiter(int cell, int place) {
            for (int call = 0; call < MOST_CALLS; call++) {
                if (now.waitsFor[call] == cell && aheadOf(call, cell) == place) {
                    return call;
                }
            }
            return NONE;
        }

        private int aheadOf(int call, int cell) {
            int many = 0;
            for (int other = 0; other < MOST_CALLS; other++) {
                many += now.waitsFor[other] == cell && isBefore(other, call) ? 1 : 0;
            }
            return many;
        }

        private boolean isBefore(int one, int other) {
            int fallOne = now.fall[one];
            int fallOther = now.fall[other];
            if (fallOne > 0 && fallOther > 0) {
                // Both falls are above 0: crosswise products compare the fractions uncut.
                int need = UNIT * told.setting[NEED];
                int left = (now.ownLevel(one) - need) * fallOther;
                int right = (now.ownLevel(other) - need) * fallOne;
                return left != right ? left < right : waitsLonger(one, other);
            }
            if (fallOne > 0 || fallOther > 0) {
                return fallOne > 0;
            }
            return waitsLonger(one, other);
        }

        private boolean waitsLonger(int one, int other) {
            return now.waitsSince[one] < now.waitsSince[other];
        }
    }

    /** What was ahead of the latest deeds, in a ring. */
    private static final class History {
        private final Traffic[] ring = new Traffic[MOST_UNDONE];
        private int next;
        private int known;

        private History() {
            for (int i = 0; i < MOST_UNDONE; i++) {
                ring[i] = new Traffic();
            }
        }

        private void forgetAll() {
            known = 0;
        }

        private void remember(Traffic now) {
            Traffic row = ring[next];
            if (row == null) {
                return;
            }
            row.copyFrom(now);
            next = next + 1 < MOST_UNDONE ? next + 1 : 0;
            known = Math.min(known + 1, MOST_UNDONE);
        }

        private boolean bringBack(Traffic now) {
            int last = next > 0 ? next - 1 : MOST_UNDONE - 1;
            Traffic row = ring[last];
            if (known == 0 || row == null) {
                return false;
            }
            now.copyFrom(row);
            next = last;
            known--;
            return true;
        }
    }

    private static final class Images {
        private final Traffic[] rows = new Traffic[MOST_IMAGES];
        private final boolean[] kept = new boolean[MOST_IMAGES];

        private Images() {
            for (int i = 0; i < MOST_IMAGES; i++) {
                rows[i] = new Traffic();
            }
        }

        private void forgetAll() {
            for (int i = 0; i < MOST_IMAGES; i++) {
                kept[i] = false;
            }
        }

        private void store(int image, Traffic now) {
            Traffic row = rows[image];
            if (row != null) {
                row.copyFrom(now);
                kept[image] = true;
            }
        }

        private boolean bringBack(int image, Traffic now) {
            Traffic row = rows[image];
            if (!kept[image] || row == null) {
                return false;
            }
            now.copyFrom(row);
            return true;
        }
    }

    /** A CELL alone: SHARES as whole weights, each of all of them together. */
    private static final class LongRun {
        private static final int NEW = 0, MOVING = 1;

        private final long[] weights = new long[MOST_CHANNELS + 1];
        private int channels;
        private int guard;

        /** All rates are taken tenfold and no weight is divided, so that they are whole; each is below 10 to the 15. */
        private void weigh(int channels, int guard, int a, int b, int c) {
            this.channels = Math.min(channels, MOST_CHANNELS);
            this.guard = guard;
            for (int busy = 0; busy <= this.channels; busy++) {
                long weight = 1;
                for (int below = 0; below < busy; below++) {
                    weight *= a * chanceWith(below) + TENTHS * b;
                }
                for (int above = busy + 1; above <= this.channels; above++) {
                    weight *= TENTHS * above * c;
                }
                weights[busy] = weight;
            }
        }

        private int chanceWith(int busy) {
            return chance(channels - busy, guard);
        }

        private long allWeights() {
            long all = 0;
            for (int busy = 0; busy <= channels; busy++) {
                all += weights[busy];
            }
            return all;
        }

        private long upper(int what) {
            if (what == MOVING) {
                return weights[channels];
            }
            long sum = 0;
            for (int busy = 0; busy <= channels; busy++) {
                sum += weights[busy] * (what == NEW ? TENTHS - chanceWith(busy) : busy);
            }
            return sum;
        }

        private long lower(int what) {
            return what == NEW ? TENTHS * allWeights() : allWeights();
        }

        private boolean losesMovingAtMostOnceIn(int n) {
            return upper(MOVING) * n <= lower(MOVING);
        }
    }

    /** What was SEEN of new calls. */
    private static final class Sightings {
        private int many;
        private final int[] free = new int[MOST_SEEN];
        private final int[] taken = new int[MOST_SEEN];

        private boolean add(int f, int wasTaken) {
            if (many >= MOST_SEEN) {
                return false;
            }
            free[many] = f;
            taken[many] = wasTaken;
            many++;
            return true;
        }

        private boolean allow(int guard) {
            for (int i = 0; i < many && i < MOST_SEEN; i++) {
                int chance = chance(free[i], guard);
                if (taken[i] == 1 ? chance == 0 : chance == TENTHS) {
                    return false;
                }
            }
            return true;
        }
    }
}
