import java.math.BigInteger;
import java.util.ArrayDeque;
import java.util.ArrayList;
import java.util.Comparator;
import java.util.Deque;
import java.util.List;
import java.util.TreeMap;
import java.util.regex.Matcher;
import java.util.regex.Pattern;

/** The document a second time, written with the Java library and without regard to room: what random runs compare with. */
final class Model {
    private static final int BAD = -1, STATE = -2, FULL = -3, NONE = -9, NO = -1000000;

    private record Plan(int channels, int guard, int places) {
    }

    private static final class Phone {
        int own, heard, moved, returned, fall, from = NONE, heardThen;
        int[] level = new int[4], streak = new int[4];

        Phone copy() {
            Phone p = new Phone();
            p.own = own;
            p.heard = heard;
            p.moved = moved;
            p.returned = returned;
            p.fall = fall;
            p.from = from;
            p.heardThen = heardThen;
            p.level = level.clone();
            p.streak = streak.clone();
            return p;
        }
    }

    /** All that section 2 tells. A queue holds its calls in the order in which they came. */
    private static final class Scene {
        int seed;
        TreeMap<Integer, Phone> phones = new TreeMap<>();
        List<List<Integer>> queues = new ArrayList<>();
        List<Integer> guards = new ArrayList<>();
        int[][] counts = new int[4][6];
        List<int[]> pairs = new ArrayList<>();

        Scene copy() {
            Scene s = new Scene();
            s.seed = seed;
            phones.forEach((number, phone) -> s.phones.put(number, phone.copy()));
            queues.forEach(queue -> s.queues.add(new ArrayList<>(queue)));
            s.guards.addAll(guards);
            for (int i = 0; i < 4; i++) {
                s.counts[i] = counts[i].clone();
            }
            pairs.forEach(pair -> s.pairs.add(pair.clone()));
            return s;
        }
    }

    private String text = "";
    private List<Plan> plans = new ArrayList<>();
    private int[] numbers = {3, 2, 1, 10, 3};
    private Scene scene = new Scene();
    private final Deque<Scene> past = new ArrayDeque<>();
    private final Scene[] images = new Scene[2];
    private final List<int[]> seen = new ArrayList<>();
    private final Deque<Integer> freed = new ArrayDeque<>();

    private static final Pattern TOKEN = Pattern.compile("[0-9]+|.", Pattern.DOTALL);
    private static final String LETTERS = "hdkmw";
    private static final int[][] RANGES = {{0, 20}, {1, 5}, {0, 3}, {0, 60}, {1, 9}};

    int type(int letter) {
        if (letter < 0 || letter > 255) {
            return BAD;
        }
        if (text.length() == 120) {
            return FULL;
        }
        text += (char) letter;
        return text.length();
    }

    int clear() {
        int had = text.length();
        text = "";
        return had;
    }

    int tells() {
        List<Plan> newPlans = new ArrayList<>();
        int[] newNumbers = {3, 2, 1, 10, 3};
        String toldLetters = "";
        int items = 0;
        // What may stand next: the item's letter (0 figures so far wanted), figures, or the end of the item.
        char item = 0;
        List<Integer> figures = new ArrayList<>();
        Matcher m = TOKEN.matcher(text);
        while (m.find()) {
            String token = m.group();
            if (token.equals(" ")) {
                continue;
            }
            int fault = -10 - m.start();
            if (item == 0) {
                item = token.charAt(0);
                boolean fits = item == 'c' ? newPlans.size() < 4 : LETTERS.indexOf(item) >= 0 && toldLetters.indexOf(item) < 0;
                if (!fits) {
                    return fault;
                }
                figures.clear();
                continue;
            }
            int wanted = item == 'c' ? 3 : 1;
            if (figures.size() < wanted) {
                if (!token.matches("0|[1-9][0-9]?")) {
                    return fault;
                }
                int number = Integer.parseInt(token);
                int[] range = rangeOf(item, figures);
                if (number < range[0] || number > range[1]) {
                    return fault;
                }
                figures.add(number);
                continue;
            }
            if (!token.equals(";")) {
                return fault;
            }
            items++;
            if (item == 'c') {
                newPlans.add(new Plan(figures.get(0), figures.get(1), figures.get(2)));
            } else {
                newNumbers[LETTERS.indexOf(item)] = figures.get(0);
                toldLetters += item;
            }
            item = 0;
        }
        if (item != 0) {
            return -10 - text.length();
        }
        text = "";
        plans = newPlans;
        numbers = newNumbers;
        scene = new Scene();
        for (Plan plan : plans) {
            scene.queues.add(new ArrayList<>());
            scene.guards.add(plan.guard());
        }
        past.clear();
        images[0] = null;
        images[1] = null;
        seen.clear();
        return items;
    }

    private static int[] rangeOf(char item, List<Integer> figures) {
        if (item != 'c') {
            return RANGES[LETTERS.indexOf(item)];
        }
        return switch (figures.size()) {
            case 0 -> new int[] {1, 6};
            case 1 -> new int[] {0, 10 * figures.get(0)};
            default -> new int[] {0, 4};
        };
    }

    private boolean noCell(int cell) {
        return cell < 0 || cell >= plans.size();
    }

    private int busy(int cell) {
        return (int) scene.phones.values().stream().filter(p -> p.own == cell).count();
    }

    private int free(int cell) {
        return plans.get(cell).channels() - busy(cell);
    }

    private static int chance(int free, int guard) {
        return Math.min(10, Math.max(0, 10 * free - guard));
    }

    private void deed() {
        past.addLast(scene.copy());
        if (past.size() > 6) {
            past.removeFirst();
        }
    }

    int offers(int cell, int value) {
        if (noCell(cell) || value < 0 || value > 100) {
            return BAD;
        }
        if (scene.phones.size() == 12) {
            return FULL;
        }
        deed();
        scene.counts[cell][0]++;
        int chance = chance(free(cell), scene.guards.get(cell));
        if (chance < 10) {
            if (chance == 0) {
                return NONE;
            }
            long seed = ((scene.seed & 0xffffffffL) * 69069 + 1) % (1L << 32);
            scene.seed = (int) seed;
            if (seed / 65536 % 10 >= chance) {
                return NONE;
            }
        }
        scene.counts[cell][1]++;
        int number = 0;
        while (scene.phones.containsKey(number)) {
            number++;
        }
        Phone p = new Phone();
        p.own = cell;
        p.level[cell] = 64 * value;
        scene.phones.put(number, p);
        return number;
    }

    private int waitsFor(int call) {
        for (int cell = 0; cell < plans.size(); cell++) {
            if (scene.queues.get(cell).contains(call)) {
                return cell;
            }
        }
        return NONE;
    }

    private void stopWaiting(int call) {
        scene.queues.forEach(queue -> queue.remove((Integer) call));
    }

    int hears(int call, int... values) {
        if (!scene.phones.containsKey(call)) {
            return BAD;
        }
        for (int i = 0; i < 4; i++) {
            if (values[i] < 0 || values[i] > (noCell(i) ? 0 : 100)) {
                return BAD;
            }
        }
        deed();
        Phone p = scene.phones.get(call);
        p.heard++;
        int before = p.level[p.own];
        int f = (int) Math.pow(2, numbers[2]);
        for (int i = 0; i < plans.size(); i++) {
            p.level[i] = (p.level[i] * (f - 1) + 64 * values[i]) / f;
        }
        p.fall = before - p.level[p.own];
        int target = NONE;
        for (int i = plans.size() - 1; i >= 0; i--) {
            if (i == p.own) {
                continue;
            }
            p.streak[i] = p.level[i] - p.level[p.own] >= 64 * numbers[0] ? p.streak[i] + 1 : 0;
            if (p.streak[i] >= numbers[1] && (target == NONE || p.level[i] >= p.level[target])) {
                target = i;
            }
        }
        if (waitsFor(call) != NONE && waitsFor(call) != target) {
            stopWaiting(call);
        }
        int answer = 0;
        if (target != NONE) {
            if (waitsFor(call) == target) {
                answer = 2;
            } else {
                scene.counts[target][2]++;
                if (free(target) > 0) {
                    move(call, target);
                    serve();
                    return 1;
                }
                if (scene.queues.get(target).size() < plans.get(target).places()) {
                    scene.queues.get(target).add(call);
                    answer = 2;
                } else {
                    scene.counts[target][3]++;
                    answer = 3;
                }
            }
        }
        if (p.level[p.own] < 64 * numbers[3]) {
            scene.counts[p.own][5]++;
            remove(call);
            answer = 4;
        }
        return answer;
    }

    private void move(int call, int to) {
        Phone p = scene.phones.get(call);
        int from = p.own;
        if (p.from == to && p.heard - p.heardThen <= numbers[4]) {
            p.returned++;
        }
        p.own = to;
        p.from = from;
        p.heardThen = p.heard;
        p.moved++;
        p.fall = 0;
        p.streak = new int[4];
        scene.counts[to][4]++;
        int[] known = null;
        for (int[] pair : scene.pairs) {
            if (pair[0] == from && pair[1] == to) {
                known = pair;
            }
        }
        if (known == null) {
            known = new int[] {from, to, 0};
            scene.pairs.add(known);
        }
        known[2]++;
        freed.addLast(from);
    }

    private int remove(int call) {
        stopWaiting(call);
        freed.addLast(scene.phones.remove(call).own);
        return serve();
    }

    private int serve() {
        int moved = 0;
        while (!freed.isEmpty()) {
            int cell = freed.removeFirst();
            while (free(cell) > 0 && !scene.queues.get(cell).isEmpty()) {
                int first = inOrder(cell).get(0);
                stopWaiting(first);
                move(first, cell);
                moved++;
            }
        }
        return moved;
    }

    private List<Integer> inOrder(int cell) {
        List<Integer> queue = new ArrayList<>(scene.queues.get(cell));
        // The sort is stable: who came earlier stays ahead.
        queue.sort(Comparator.comparingDouble(call -> {
            Phone p = scene.phones.get(call);
            return p.fall <= 0 ? Double.POSITIVE_INFINITY : (p.level[p.own] - 64.0 * numbers[3]) / p.fall;
        }));
        return queue;
    }

    int ends(int call) {
        if (!scene.phones.containsKey(call)) {
            return BAD;
        }
        deed();
        return remove(call);
    }

    int guards(int cell, int guard) {
        if (noCell(cell) || guard < 0 || guard > 10 * plans.get(cell).channels()) {
            return BAD;
        }
        if (scene.guards.get(cell) == guard) {
            return STATE;
        }
        deed();
        return scene.guards.set(cell, guard);
    }

    int seeds(int x) {
        int was = scene.seed;
        scene.seed = x;
        return was;
    }

    int undo() {
        if (past.isEmpty()) {
            return STATE;
        }
        scene = past.removeLast();
        return past.size();
    }

    int cell(int cell, int what) {
        if (noCell(cell) || what < 0 || what > 11) {
            return BAD;
        }
        return switch (what) {
            case 0 -> plans.get(cell).channels();
            case 1 -> scene.guards.get(cell);
            case 2 -> plans.get(cell).places();
            case 3 -> busy(cell);
            case 4 -> scene.queues.get(cell).size();
            case 5 -> chance(free(cell), scene.guards.get(cell));
            default -> scene.counts[cell][what - 6];
        };
    }

    int call(int call, int what) {
        Phone p = scene.phones.get(call);
        if (p == null) {
            return NO;
        }
        return switch (what) {
            case 0 -> p.own;
            case 1 -> waitsFor(call);
            case 2 -> p.heard;
            case 3 -> p.moved;
            case 4 -> p.returned;
            case 5 -> p.fall;
            case 6 -> p.from;
            default -> NO;
        };
    }

    int level(int call, int cell, int way) {
        Phone p = scene.phones.get(call);
        if (p == null || noCell(cell) || way < 0 || way > 1) {
            return BAD;
        }
        return way == 0 ? p.level[cell] : p.streak[cell];
    }

    int queued(int cell, int i) {
        if (noCell(cell) || i < 0) {
            return BAD;
        }
        List<Integer> queue = inOrder(cell);
        return i < queue.size() ? queue.get(i) : NONE;
    }

    int pair(int i, int what) {
        if (i < 0 || what < 0 || what > 2) {
            return BAD;
        }
        return i < scene.pairs.size() ? scene.pairs.get(i)[what] : NONE;
    }

    private static boolean noRates(int a, int b, int c) {
        return a < 0 || a > 9 || b < 0 || b > 9 || c < 1 || c > 9;
    }

    private BigInteger[] shares(int channels, int guard, int a, int b, int c) {
        BigInteger[] all = new BigInteger[channels + 1];
        all[channels] = BigInteger.ONE;
        for (int k = channels; k >= 0; k--) {
            BigInteger share = BigInteger.ONE;
            for (int i = 0; i < channels; i++) {
                long up = a * chance(channels - i, guard) + 10L * b;
                share = share.multiply(BigInteger.valueOf(i < k ? up : 10L * (i + 1) * c));
            }
            all[k] = share;
        }
        return all;
    }

    long lost(int cell, int a, int b, int c, int what, int part) {
        if (noCell(cell) || noRates(a, b, c) || what < 0 || what > 2 || part < 0 || part > 1) {
            return BAD;
        }
        int channels = plans.get(cell).channels();
        int guard = scene.guards.get(cell);
        BigInteger[] shares = shares(channels, guard, a, b, c);
        BigInteger upper = BigInteger.ZERO;
        BigInteger lower = BigInteger.ZERO;
        for (int k = 0; k <= channels; k++) {
            int times = what == 0 ? 10 - chance(channels - k, guard) : what == 2 ? 10 * k : k == channels ? 10 : 0;
            upper = upper.add(shares[k].multiply(BigInteger.valueOf(times)));
            lower = lower.add(shares[k].multiply(BigInteger.TEN));
        }
        return (part == 0 ? upper : lower).divide(upper.gcd(lower)).longValueExact();
    }

    int best(int cell, int a, int b, int c, int n) {
        if (noCell(cell) || noRates(a, b, c) || n < 1 || n > 1000) {
            return BAD;
        }
        int channels = plans.get(cell).channels();
        for (int guard = 0; guard <= 10 * channels; guard++) {
            BigInteger[] shares = shares(channels, guard, a, b, c);
            BigInteger all = BigInteger.ZERO;
            for (BigInteger share : shares) {
                all = all.add(share);
            }
            if (shares[channels].multiply(BigInteger.valueOf(n)).compareTo(all) <= 0) {
                return guard;
            }
        }
        return NONE;
    }

    int sees(int f, int taken) {
        if (f < 0 || f > 6 || taken < 0 || taken > 1) {
            return BAD;
        }
        if (seen.size() == 6) {
            return FULL;
        }
        seen.add(new int[] {f, taken});
        return seen.size();
    }

    int forget() {
        int was = seen.size();
        seen.clear();
        return was;
    }

    int unseen(int cell, int what) {
        if (noCell(cell) || what < 0 || what > 2) {
            return BAD;
        }
        List<Integer> could = new ArrayList<>();
        for (int guard = 0; guard <= 10 * plans.get(cell).channels(); guard++) {
            int g = guard;
            if (seen.stream().allMatch(s -> s[1] == 1 ? chance(s[0], g) > 0 : chance(s[0], g) < 10)) {
                could.add(guard);
            }
        }
        if (what == 0) {
            return could.size();
        }
        return could.isEmpty() ? NONE : could.get(what == 1 ? 0 : could.size() - 1);
    }

    int keep(int image) {
        if (image < 0 || image > 1) {
            return BAD;
        }
        images[image] = scene.copy();
        return scene.phones.size();
    }

    int back(int image) {
        if (image < 0 || image > 1) {
            return BAD;
        }
        if (images[image] == null) {
            return STATE;
        }
        scene = images[image].copy();
        past.clear();
        return scene.phones.size();
    }

    int count(int what) {
        return switch (what) {
            case 0 -> plans.size();
            case 1 -> scene.phones.size();
            case 2, 3, 4, 5, 6 -> numbers[what - 2];
            case 7 -> scene.seed;
            case 8 -> seen.size();
            case 9 -> text.length();
            case 10 -> past.size();
            case 11 -> scene.pairs.size();
            default -> NO;
        };
    }
}
