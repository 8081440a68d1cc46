import java.util.Arrays;

/**
 * SHARES of a CELL by what flows: as much goes into each state as out of it, and all SHARES are 1. They are found by
 * elimination, not as the products that the program makes.
 */
final class Flows {
    private final int channels;
    private final int guard;

    Flows(int channels, int guard) {
        this.channels = channels;
        this.guard = guard;
    }

    private int chance(int busy) {
        int tenths = 10 * (channels - busy) - guard;
        return tenths < 0 ? 0 : tenths > 10 ? 10 : tenths;
    }

    private Fraction up(int busy, int a, int b) {
        if (busy == channels) {
            return Fraction.NOUGHT;
        }
        return Fraction.of((long) a * chance(busy), 10).plus(Fraction.of(b, 1));
    }

    Fraction[] shares(int a, int b, int c) {
        int states = channels + 1;
        Fraction[][] rows = new Fraction[states][states + 1];
        for (int k = 0; k < states; k++) {
            Arrays.fill(rows[k], Fraction.NOUGHT);
            // The balance of the last state follows from the others; in its place stands that all SHARES are 1.
            if (k == channels) {
                Arrays.fill(rows[k], Fraction.ONE);
                continue;
            }
            rows[k][k] = Fraction.NOUGHT.minus(up(k, a, b)).minus(Fraction.of((long) k * c, 1));
            rows[k][k + 1] = Fraction.of((long) (k + 1) * c, 1);
            if (k > 0) {
                rows[k][k - 1] = up(k - 1, a, b);
            }
        }
        return solve(rows);
    }

    private static Fraction[] solve(Fraction[][] rows) {
        int many = rows.length;
        for (int column = 0; column < many; column++) {
            int pivot = column;
            while (rows[pivot][column].isNought()) {
                pivot++;
            }
            Fraction[] other = rows[pivot];
            rows[pivot] = rows[column];
            rows[column] = other;
            for (int row = 0; row < many; row++) {
                if (row != column) {
                    takeAway(rows[row], rows[column], column);
                }
            }
        }
        Fraction[] all = new Fraction[many];
        for (int i = 0; i < many; i++) {
            all[i] = rows[i][many].by(rows[i][i]);
        }
        return all;
    }

    private static void takeAway(Fraction[] row, Fraction[] pivot, int column) {
        Fraction times = row[column].by(pivot[column]);
        for (int i = 0; i < row.length; i++) {
            row[i] = row[i].minus(times.times(pivot[i]));
        }
    }

    /** NEW ones LOST (0), MOVING ones LOST (1), MEAN (2). */
    Fraction lost(Fraction[] shares, int what) {
        if (what == 1) {
            return shares[channels];
        }
        Fraction all = Fraction.NOUGHT;
        for (int k = 0; k <= channels; k++) {
            Fraction times = what == 0 ? Fraction.of(10 - chance(k), 10) : Fraction.of(k, 1);
            all = all.plus(shares[k].times(times));
        }
        return all;
    }
}
