import java.math.BigInteger;

/** A fraction in lowest terms, 0 by 1 where it cannot be: what a chance is held against. */
final class Ratio {
    static final Ratio ZERO = of(0, 1);
    static final Ratio ONE = of(1, 1);

    final BigInteger above;
    final BigInteger below;

    private Ratio(BigInteger above, BigInteger below) {
        BigInteger common = above.gcd(below);
        boolean none = above.signum() == 0 || below.signum() == 0;
        this.above = none ? BigInteger.ZERO : above.divide(common);
        this.below = none ? BigInteger.ONE : below.divide(common);
    }

    static Ratio of(long above, long below) {
        return new Ratio(BigInteger.valueOf(above), BigInteger.valueOf(below));
    }

    Ratio plus(Ratio r) {
        return new Ratio(above.multiply(r.below).add(r.above.multiply(below)), below.multiply(r.below));
    }

    Ratio times(Ratio r) {
        return new Ratio(above.multiply(r.above), below.multiply(r.below));
    }

    /** This by another one; 0 if that is 0. */
    Ratio by(Ratio r) {
        return new Ratio(above.multiply(r.below), below.multiply(r.above));
    }

    int compare(Ratio r) {
        return above.multiply(r.below).compareTo(r.above.multiply(below));
    }

    long part(int part) {
        return (part == 0 ? above : below).longValueExact();
    }
}
