import java.math.BigDecimal;
import java.math.BigInteger;
import java.math.RoundingMode;

/** A fraction of the Java library's whole numbers, for the reference. */
final class Ratio {
    static final Ratio ZERO = of(0);
    static final Ratio ONE = of(1);
    private static final RoundingMode[] MODES = {
        RoundingMode.UP, RoundingMode.DOWN, RoundingMode.CEILING, RoundingMode.FLOOR,
        RoundingMode.HALF_UP, RoundingMode.HALF_DOWN, RoundingMode.HALF_EVEN, RoundingMode.UNNECESSARY};

    final BigInteger over;
    final BigInteger under;

    private Ratio(BigInteger over, BigInteger under) {
        BigInteger common = over.gcd(under).multiply(BigInteger.valueOf(under.signum()));
        this.over = over.divide(common);
        this.under = under.divide(common);
    }

    static Ratio of(long number) {
        return new Ratio(BigInteger.valueOf(number), BigInteger.ONE);
    }

    static Ratio of(long over, long under) {
        return new Ratio(BigInteger.valueOf(over), BigInteger.valueOf(under));
    }

    Ratio plus(Ratio other) {
        return new Ratio(over.multiply(other.under).add(other.over.multiply(under)), under.multiply(other.under));
    }

    Ratio minus(Ratio other) {
        return plus(other.times(of(-1)));
    }

    Ratio times(Ratio other) {
        return new Ratio(over.multiply(other.over), under.multiply(other.under));
    }

    Ratio by(Ratio other) {
        return new Ratio(over.multiply(other.under), under.multiply(other.over));
    }

    Ratio power(int exponent) {
        if (exponent < 0) {
            return ONE.by(power(-exponent));
        }
        return new Ratio(over.pow(exponent), under.pow(exponent));
    }

    int sign() {
        return over.signum();
    }

    int compareTo(Ratio other) {
        return minus(other).sign();
    }

    long rounded(int mode) {
        if (mode == AnnuityHouse.EXACT && !under.equals(BigInteger.ONE)) {
            throw new IllegalStateException();
        }
        return new BigDecimal(over).divide(new BigDecimal(under), 0, MODES[mode]).longValueExact();
    }
}
