import java.util.ArrayList;
import java.util.List;
import java.util.function.Function;
import java.util.function.Supplier;
import java.util.function.ToLongFunction;

/**
 * Whether a call leaves all as it was: what can be asked, and what shows only later (what can be UNDONE, IMAGES, THE
 * TEXT, what was SEEN, since when CALLS WAIT). Each look is taken at a new object, made by the same calls with and
 * without the call in question, so that none is used for more than 512.
 */
final class Unchanged {
    private static final List<Function<GuardCells, String>> LOOKS = looks();

    private final Supplier<GuardCells> making;
    private final List<String> ahead = new ArrayList<>();

    /** What objects made so look like. */
    Unchanged(Supplier<GuardCells> making) {
        this.making = making;
        for (Function<GuardCells, String> look : LOOKS) {
            ahead.add(look.apply(making.get()));
        }
    }

    void by(String name, ToLongFunction<GuardCells> call, long want) {
        for (int i = 0; i < LOOKS.size(); i++) {
            GuardCells x = making.get();
            Due.due(name, call.applyAsLong(x), want);
            Seen.same(name + ", look " + i, LOOKS.get(i).apply(x), ahead.get(i));
        }
    }

    private static List<Function<GuardCells, String>> looks() {
        List<Function<GuardCells, String>> all = new ArrayList<>();
        all.add(Seen::allOf);
        for (int times = 1; times <= 6; times++) {
            int many = times;
            all.add(x -> undone(x, many));
        }
        all.add(x -> "back " + x.back(0) + "\n" + Seen.allOf(x));
        all.add(x -> "back " + x.back(1) + "\n" + Seen.allOf(x));
        all.add(Unchanged::whichGuard);
        all.add(Unchanged::readAnew);
        all.add(Unchanged::whatComesNext);
        return all;
    }

    private static String undone(GuardCells x, int times) {
        StringBuilder all = new StringBuilder();
        for (int i = 0; i < times; i++) {
            all.append("undo ").append(x.undo()).append('\n');
        }
        return all + Seen.allOf(x);
    }

    private static String whichGuard(GuardCells x) {
        StringBuilder all = new StringBuilder();
        for (int cell = 0; cell < 4; cell++) {
            for (int what = 0; what < 3; what++) {
                all.append("unseen ").append(x.unseen(cell, what)).append('\n');
            }
        }
        for (int i = 0; i < 7; i++) {
            all.append("sees ").append(x.sees(6, 1)).append('\n');
        }
        return all.append("forget ").append(x.forget()).append('\n').toString();
    }

    private static String readAnew(GuardCells x) {
        StringBuilder all = new StringBuilder();
        all.append("type ").append(x.type(';')).append('\n');
        all.append("tells ").append(x.tells()).append('\n');
        return all + Seen.allOf(x);
    }

    /** A run of deeds with what they answer: by it RETURNS and the order in queues show. */
    private static String whatComesNext(GuardCells x) {
        StringBuilder all = new StringBuilder();
        int cells = x.count(0);
        for (int step = 0; step < 60; step++) {
            int call = step * 5 % 12;
            int[] v = new int[4];
            for (int cell = 0; cell < cells; cell++) {
                v[cell] = 20 + (step * 37 + cell * 53) % 81;
            }
            all.append("hears ").append(x.hears(call, v[0], v[1], v[2], v[3])).append('\n');
            all.append("returns ").append(x.call(call, 4)).append('\n');
            if (step % 4 == 0) {
                all.append("ends ").append(x.ends((call + 1) % 12)).append('\n');
                all.append("offers ").append(x.offers(step / 4 % Math.max(1, cells), 60)).append('\n');
            }
        }
        return all.toString();
    }
}
