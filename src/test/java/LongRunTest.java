import java.math.BigInteger;

/** Promises 16 and 17: lost, best. Every CELL, GUARD and rate is compared with fractions without a bound. */
public final class LongRunTest {
    private static BigInteger upper;
    private static BigInteger lower;

    public static void main(String[] args) {
        known();
        refused();
        lostEverywhere();
        bestEverywhere();
        Due.close();
    }

    private static void known() {
        GuardCells x = Due.told("c1 0 0;c2 15 0;c1 10 0;");
        fraction(x, "Erlang's: 1 / 2", 0, 1, 0, 0, 1, 2);
        fraction(x, "the same for moving ones", 0, 1, 0, 1, 1, 2);
        fraction(x, "MEAN", 0, 1, 0, 2, 1, 2);
        fraction(x, "15 / 16", 1, 3, 2, 0, 15, 16);
        fraction(x, "7 / 16", 1, 3, 2, 1, 7, 16);
        fraction(x, "21 / 16", 1, 3, 2, 2, 21, 16);
        fraction(x, "no rates, NEW", 0, 0, 0, 0, 0, 1);
        fraction(x, "no rates, MOVING", 0, 0, 0, 1, 0, 1);
        fraction(x, "no rates, MEAN", 0, 0, 0, 2, 0, 1);
        fraction(x, "all guarded", 2, 5, 0, 0, 1, 1);
        x.guards(0, 5);
        fraction(x, "the GUARD that it has now: up 1 / 2, SHARES 2 / 3, 1 / 3", 0, 1, 0, 0, 2, 3);
    }

    private static void fraction(GuardCells x, String what, int cell, int a, int b, int kind, long up, long low) {
        Due.due(what + ", upper", x.lost(cell, a, b, 1, kind, 0), up);
        Due.due(what + ", lower", x.lost(cell, a, b, 1, kind, 1), low);
    }

    private static void refused() {
        GuardCells x = Due.told("c2 0 0;");
        int[][] wrong = {
            {1, 1, 1, 1, 0, 0}, {-1, 1, 1, 1, 0, 0}, {0, -1, 1, 1, 0, 0}, {0, 10, 1, 1, 0, 0}, {0, 1, -1, 1, 0, 0},
            {0, 1, 10, 1, 0, 0}, {0, 1, 1, 0, 0, 0}, {0, 1, 1, 10, 0, 0}, {0, 1, 1, 1, -1, 0}, {0, 1, 1, 1, 3, 0},
            {0, 1, 1, 1, 0, -1}, {0, 1, 1, 1, 0, 2},
        };
        for (int[] w : wrong) {
            Due.due("lost() of what is BAD", x.lost(w[0], w[1], w[2], w[3], w[4], w[5]), GuardCells.BAD);
        }
        for (int i = 0; i < 8; i++) {
            int[] w = wrong[i];
            Due.due("best() of what is BAD", x.best(w[0], w[1], w[2], w[3], 5), GuardCells.BAD);
        }
        Due.due("best() for 0", x.best(0, 1, 1, 1, 0), GuardCells.BAD);
        Due.due("best() for 1001", x.best(0, 1, 1, 1, 1001), GuardCells.BAD);
        Due.due("best() for 1", x.best(0, 9, 9, 1, 1), 0);
        Due.due("best() for 1000, NONE", x.best(0, 9, 9, 1, 1000), GuardCells.NONE);
        Due.due("best() for 1000, no moving ones", x.best(0, 9, 0, 1, 1000), 10);
    }

    private static int chance(int free, int guard) {
        int tenths = 10 * free - guard;
        return tenths < 0 ? 0 : tenths > 10 ? 10 : tenths;
    }

    /** SHARES of k, all times the product of all rates down, so that every division comes out even. */
    private static BigInteger[] weights(int channels, int guard, int a, int b, int c) {
        BigInteger[] weights = new BigInteger[channels + 1];
        BigInteger scale = BigInteger.ONE;
        for (int k = 1; k <= channels; k++) {
            scale = scale.multiply(BigInteger.valueOf(10L * k * c));
        }
        weights[0] = scale;
        for (int k = 1; k <= channels; k++) {
            BigInteger up = BigInteger.valueOf((long) a * chance(channels - k + 1, guard) + 10L * b);
            weights[k] = weights[k - 1].multiply(up).divide(BigInteger.valueOf(10L * k * c));
        }
        return weights;
    }

    private static void lostBy(int channels, int guard, BigInteger[] weights, int what) {
        upper = BigInteger.ZERO;
        lower = BigInteger.ZERO;
        for (int k = 0; k <= channels; k++) {
            int times = what == 2 ? k : what == 1 ? (k == channels ? 1 : 0) : 10 - chance(channels - k, guard);
            upper = upper.add(weights[k].multiply(BigInteger.valueOf(times)));
            lower = lower.add(weights[k].multiply(BigInteger.valueOf(what == 0 ? 10 : 1)));
        }
        BigInteger common = upper.gcd(lower);
        upper = upper.divide(common);
        lower = lower.divide(common);
    }

    private static void lostEverywhere() {
        for (int channels = 1; channels <= 6; channels++) {
            for (int guard = 0; guard <= 10 * channels; guard += 1 + guard % 3) {
                for (int rates = 0; rates < 900; rates += 7) {
                    compareLost(channels, guard, rates);
                }
                compareLost(channels, guard, 899);
            }
        }
    }

    private static void compareLost(int channels, int guard, int rates) {
        GuardCells x = Due.told("c" + channels + " " + guard + " 0;");
        int a = rates % 10;
        int b = rates / 10 % 10;
        int c = 1 + rates / 100;
        BigInteger[] weights = weights(channels, guard, a, b, c);
        for (int what = 0; what < 3; what++) {
            lostBy(channels, guard, weights, what);
            String name = "lost() of " + what + " by " + channels + ", " + guard + ", " + a + ", " + b + ", " + c;
            Due.due(name, x.lost(0, a, b, c, what, 0), upper.longValueExact());
            Due.due(name, x.lost(0, a, b, c, what, 1), lower.longValueExact());
        }
    }

    private static void bestEverywhere() {
        int[] many = {1, 2, 3, 5, 10, 33, 100, 999, 1000};
        for (int channels = 1; channels <= 6; channels++) {
            for (int rates = 0; rates < 900; rates += 11) {
                GuardCells x = Due.told("c" + channels + " 0 0;");
                for (int n : many) {
                    int a = rates % 10;
                    int b = rates / 10 % 10;
                    int c = 1 + rates / 100;
                    String name = "best() by " + channels + ", " + a + ", " + b + ", " + c + ", " + n;
                    Due.due(name, x.best(0, a, b, c, n), leastGuard(channels, a, b, c, n));
                }
            }
        }
    }

    private static int leastGuard(int channels, int a, int b, int c, int n) {
        for (int guard = 0; guard <= 10 * channels; guard++) {
            lostBy(channels, guard, weights(channels, guard, a, b, c), 1);
            if (upper.multiply(BigInteger.valueOf(n)).compareTo(lower) <= 0) {
                return guard;
            }
        }
        return GuardCells.NONE;
    }
}
