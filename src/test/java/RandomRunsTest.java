import java.util.Random;

/** Runs of calls, the same ones each time, on an object and on the model: all answers are the same, and none throws. */
public final class RandomRunsTest {
    private static final int RUNS = 8000;
    private static final int MOST_CALLS = 512;
    /** What asking all takes at most, at the end of every second run. */
    private static final int ASKING_ALL = 300;
    /** tells() and clear(), which may come behind the last letter. */
    private static final int TELLING = 2;
    private static final int[] ODD = {-2, -1, 99, 101, 255, 256, Integer.MAX_VALUE, Integer.MIN_VALUE};

    private static final long[] HEARD = new long[5];
    private static long served;
    private static long servedSeveral;
    private static long returns;

    private final Random random;
    private final String run;
    private final boolean asksAll;
    private final int most;
    private final GuardCells x = new GuardCells();
    private final Model model = new Model();
    private int calls;
    private int good;

    private RandomRunsTest(int seed) {
        random = new Random(seed);
        run = "run " + seed;
        asksAll = seed % 2 == 0;
        most = (asksAll ? MOST_CALLS - ASKING_ALL : MOST_CALLS) - TELLING;
    }

    public static void main(String[] args) {
        for (int seed = 0; seed < RUNS; seed++) {
            new RandomRunsTest(seed).play();
        }
        StringBuilder all = new StringBuilder("hears() answered 0 to 4:");
        for (long many : HEARD) {
            all.append(' ').append(many);
            Due.due("runs that bring each answer", many > 1000 ? 1 : 0, 1);
        }
        System.out.println(all + "; ends() served: " + served + ", several: " + servedSeveral + "; returns: " + returns);
        Due.due("runs that serve", served > 1000 ? 1 : 0, 1);
        Due.due("runs that serve one after the other", servedSeveral > 100 ? 1 : 0, 1);
        Due.due("runs that bring returns", returns > 1000 ? 1 : 0, 1);
        Due.close();
    }

    private void play() {
        if (random.nextInt(20) != 0) {
            tell();
        }
        while (calls < most) {
            int kind = random.nextInt(1000);
            if (kind < 6) {
                tell();
            } else if (kind < 220) {
                offer();
            } else if (kind < 600) {
                hear();
            } else if (kind < 660) {
                end();
            } else if (kind < 720) {
                change();
            } else if (kind < 950) {
                ask();
            } else {
                askLong();
            }
        }
        for (int call = 0; call < 12; call++) {
            returns += Math.max(0, model.call(call, 4));
        }
        if (asksAll) {
            askAll();
        }
    }

    private void due(String call, long got, long want) {
        calls++;
        Due.due(run + ", call " + calls + ", " + call, got, want);
    }

    /** Mostly 0 .. below - 1, at times what is odd. */
    private int some(int below) {
        int odd = random.nextInt(150);
        return odd < ODD.length ? ODD[odd] : odd == 20 ? below : random.nextInt(below);
    }

    private void tell() {
        String text = random.nextInt(4) == 0 ? oddText() : goodText();
        for (int i = 0; i < text.length() && calls < most; i++) {
            int letter = text.charAt(i);
            due("type", x.type(letter), model.type(letter));
        }
        int got = x.tells();
        due("tells of '" + text + "'", got, model.tells());
        if (got < 0) {
            due("clear", x.clear(), model.clear());
        }
    }

    private String goodText() {
        StringBuilder all = new StringBuilder();
        int cells = random.nextInt(10) == 0 ? 1 : 2 + random.nextInt(3);
        for (int i = 0; i < cells; i++) {
            int channels = 1 + random.nextInt(random.nextInt(4) == 0 ? 6 : 2);
            int guard = random.nextInt(2) == 0 ? random.nextInt(8) : random.nextInt(10 * channels + 1);
            all.append('c').append(channels).append(' ').append(guard).append(' ').append(random.nextInt(5)).append(';');
        }
        int[] most = {4, 3, 3, 20, 9};
        int[] least = {0, 1, 0, 0, 1};
        for (int i = 0; i < 5; i++) {
            if (random.nextInt(3) != 0) {
                all.append("hdkmw".charAt(i)).append(Math.max(least[i], random.nextInt(most[i]))).append("; ");
            }
        }
        return all.toString();
    }

    private String oddText() {
        String letters = "chdkmw0123456789  ;;x";
        StringBuilder all = new StringBuilder(goodText());
        int changes = 1 + random.nextInt(3);
        for (int i = 0; i < changes; i++) {
            int at = random.nextInt(all.length());
            char letter = letters.charAt(random.nextInt(letters.length()));
            switch (random.nextInt(3)) {
                case 0 -> all.setCharAt(at, letter);
                case 1 -> all.insert(at, letter);
                default -> all.setLength(at + 1);
            }
        }
        return all.toString();
    }

    private void offer() {
        int cell = some(Math.max(1, model.count(0)));
        int value = some(101);
        due("offers", x.offers(cell, value), model.offers(cell, value));
    }

    private void hear() {
        int call = random.nextInt(40) == 0 ? some(12) : present();
        int[] v = new int[4];
        // One CELL stays the best for a while, so that queues grow.
        good = random.nextInt(6) == 0 ? random.nextInt(4) : good;
        for (int i = 0; i < 4; i++) {
            boolean there = i < model.count(0);
            v[i] = random.nextInt(400) == 0 ? ODD[random.nextInt(ODD.length)]
                    : !there ? 0 : i == good ? 40 + random.nextInt(61) : 20 + random.nextInt(50);
            if (there && random.nextInt(10) == 0) {
                v[i] = random.nextInt(15);
            }
        }
        int got = x.hears(call, v[0], v[1], v[2], v[3]);
        if (got >= 0 && got < HEARD.length) {
            HEARD[got]++;
        }
        due("hears", got, model.hears(call, v[0], v[1], v[2], v[3]));
    }

    private int present() {
        int first = random.nextInt(12);
        for (int i = 0; i < 12; i++) {
            int call = (first + i) % 12;
            if (model.call(call, 0) != GuardCells.NO) {
                return call;
            }
        }
        return first;
    }

    private void end() {
        int call = random.nextInt(10) == 0 ? some(12) : present();
        int got = x.ends(call);
        served += got > 0 ? 1 : 0;
        servedSeveral += got > 1 ? 1 : 0;
        due("ends", got, model.ends(call));
    }

    private void change() {
        int a = some(4);
        int b = some(30);
        int image = some(2);
        switch (random.nextInt(8)) {
            case 0, 1 -> due("guards", x.guards(a, b), model.guards(a, b));
            case 2 -> {
                int seed = random.nextInt();
                due("seeds", x.seeds(seed), model.seeds(seed));
            }
            case 3, 4 -> due("undo", x.undo(), model.undo());
            case 5 -> due("keep", x.keep(image), model.keep(image));
            case 6 -> due("back", x.back(image), model.back(image));
            default -> due("type", x.type(b), model.type(b));
        }
    }

    private void ask() {
        int a = some(4);
        int b = some(12);
        int c = some(2);
        switch (random.nextInt(6)) {
            case 0 -> due("cell", x.cell(a, b), model.cell(a, b));
            case 1 -> due("call", x.call(b, a + c * 4), model.call(b, a + c * 4));
            case 2 -> due("level", x.level(b, a, c), model.level(b, a, c));
            case 3 -> due("queued", x.queued(a, c), model.queued(a, c));
            case 4 -> due("pair", x.pair(b, c), model.pair(b, c));
            default -> due("count", x.count(b), model.count(b));
        }
    }

    private void askLong() {
        int cell = some(4);
        int a = some(10);
        int b = some(10);
        int c = 1 + some(9);
        int n = random.nextInt(2) == 0 ? some(1000) : some(30);
        int f = some(7);
        int two = some(2);
        int three = some(3);
        switch (random.nextInt(8)) {
            case 0, 1 -> due("lost", x.lost(cell, a, b, c, three, two), model.lost(cell, a, b, c, three, two));
            case 2, 3 -> due("best", x.best(cell, a, b, c, n), model.best(cell, a, b, c, n));
            case 4, 5 -> due("sees", x.sees(f, two), model.sees(f, two));
            case 6 -> due("unseen", x.unseen(cell, three), model.unseen(cell, three));
            default -> {
                if (random.nextInt(3) == 0) {
                    due("forget", x.forget(), model.forget());
                }
            }
        }
    }

    private void askAll() {
        for (int what = 0; what <= 11; what++) {
            due("count " + what, x.count(what), model.count(what));
            for (int cell = 0; cell < 4; cell++) {
                due("cell " + cell + ", " + what, x.cell(cell, what), model.cell(cell, what));
            }
        }
        for (int i = 0; i < 4; i++) {
            for (int cell = 0; cell < 4; cell++) {
                due("queued " + cell + ", " + i, x.queued(cell, i), model.queued(cell, i));
            }
        }
        for (int call = 0; call < 12; call++) {
            for (int what = 0; what <= 6; what++) {
                due("call " + call + ", " + what, x.call(call, what), model.call(call, what));
            }
            for (int cell = 0; cell < 4; cell++) {
                due("level " + call + ", " + cell, x.level(call, cell, 0), model.level(call, cell, 0));
                due("streak " + call + ", " + cell, x.level(call, cell, 1), model.level(call, cell, 1));
            }
        }
        for (int i = 0; i < 12; i++) {
            for (int what = 0; what < 3; what++) {
                due("pair " + i + ", " + what, x.pair(i, what), model.pair(i, what));
            }
        }
    }
}
