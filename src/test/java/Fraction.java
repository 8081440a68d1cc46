import java.math.BigInteger;

/** A fraction without a bound, in least terms, its lower number above 0. */
record Fraction(BigInteger upper, BigInteger lower) {
    static final Fraction NOUGHT = of(0, 1);
    static final Fraction ONE = of(1, 1);

    static Fraction of(long upper, long lower) {
        return least(BigInteger.valueOf(upper), BigInteger.valueOf(lower));
    }

    private static Fraction least(BigInteger upper, BigInteger lower) {
        BigInteger common = upper.gcd(lower);
        BigInteger by = lower.signum() < 0 ? common.negate() : common;
        return new Fraction(upper.divide(by), lower.divide(by));
    }

    Fraction plus(Fraction other) {
        return least(upper.multiply(other.lower).add(other.upper.multiply(lower)), lower.multiply(other.lower));
    }

    Fraction minus(Fraction other) {
        return plus(new Fraction(other.upper.negate(), other.lower));
    }

    Fraction times(Fraction other) {
        return least(upper.multiply(other.upper), lower.multiply(other.lower));
    }

    Fraction by(Fraction other) {
        return least(upper.multiply(other.lower), lower.multiply(other.upper));
    }

    boolean isNought() {
        return upper.signum() == 0;
    }
}
