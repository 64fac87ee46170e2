/** An exact fraction in least terms; reckoning that would not fit is an error of the test. */
final class Fraction implements Comparable<Fraction> {
    final long above;
    final long below;

    private Fraction(long a, long b) {
        long common = common(Math.abs(a), Math.abs(b));
        above = a / common * Long.signum(b);
        below = b / common * Long.signum(b);
    }

    private static long common(long a, long b) {
        return b == 0 ? a : common(b, a % b);
    }

    static Fraction of(long a, long b) {
        return new Fraction(a, b);
    }

    static Fraction of(long a) {
        return of(a, 1);
    }

    private static long times(long a, long b) {
        return Math.multiplyExact(a, b);
    }

    Fraction plus(Fraction f) {
        return of(Math.addExact(times(above, f.below), times(f.above, below)), times(below, f.below));
    }

    Fraction less(Fraction f) {
        return plus(of(-f.above, f.below));
    }

    Fraction times(Fraction f) {
        return of(times(above, f.above), times(below, f.below));
    }

    int sign() {
        return Long.signum(above);
    }

    @Override
    public int compareTo(Fraction f) {
        return Long.compare(times(above, f.below), times(f.above, below));
    }

    boolean within(Fraction low, Fraction high) {
        return compareTo(low) >= 0 && compareTo(high) <= 0;
    }

    /** To the nearest whole number, a half up. */
    int rounded() {
        return plus(of(1, 2)).down();
    }

    int down() {
        long whole = above / below;
        return Math.toIntExact(above % below < 0 ? whole - 1 : whole);
    }
}
