import java.lang.reflect.Constructor;
import java.lang.reflect.Field;
import java.lang.reflect.Method;
import java.math.BigInteger;

/** The whole numbers inside the house, reached by reflection, compared with the Java library's BigInteger. */
public final class WholeTest {
    private static final Check CHECK = new Check();
    private static final int BITS = 30;
    private static final int TIMES = 20000;
    private static long seed = 20261119;

    public static void main(String[] args) throws ReflectiveOperationException {
        if (Number.KIND == null) {
            System.out.println("how numbers are held is free, and there is no class Whole to test");
            return;
        }
        for (int i = 0; i < TIMES; i++) {
            setsAndMultiplies();
            combines();
            compares();
            divides();
        }
        grows();
        dividesByNothing();
        CHECK.end();
    }

    private static final class Number {
        private static final Class<?> KIND = kind();
        private final Object whole;

        Number(BigInteger value) throws ReflectiveOperationException {
            Constructor<?> made = KIND.getDeclaredConstructor();
            made.setAccessible(true);
            whole = made.newInstance();
            call("set", 0L);
            BigInteger size = value.abs();
            Number limb = size.bitLength() > BITS ? new Number(BigInteger.ZERO) : this;
            for (int at = Math.max(0, (size.bitLength() - 1) / BITS); at >= 0; at--) {
                long low = size.shiftRight(at * BITS).longValue() & ((1L << BITS) - 1);
                if (limb == this) {
                    call("set", low);
                } else {
                    limb.call("set", low);
                    call("combine", 1L, limb.whole, 1L, at);
                }
            }
            if (value.signum() < 0) {
                call("times", -1L);
            }
        }

        private static Class<?> kind() {
            for (Class<?> inside : AnnuityHouse.class.getDeclaredClasses()) {
                if (inside.getSimpleName().equals("Whole")) {
                    return inside;
                }
            }
            return null;
        }

        Object call(String name, Object... parameters) throws ReflectiveOperationException {
            for (Method method : KIND.getDeclaredMethods()) {
                if (method.getName().equals(name)) {
                    method.setAccessible(true);
                    return method.invoke(whole, parameters);
                }
            }
            throw new NoSuchMethodException(name);
        }

        private Object field(String name) throws ReflectiveOperationException {
            Field field = KIND.getDeclaredField(name);
            field.setAccessible(true);
            return field.get(whole);
        }

        BigInteger value() throws ReflectiveOperationException {
            long[] limbs = (long[]) field("limbs");
            int size = (Integer) field("size");
            BigInteger value = BigInteger.valueOf((Long) field("top"));
            for (int i = size - 1; i >= 0; i--) {
                value = value.shiftLeft(BITS).add(BigInteger.valueOf(limbs[i]));
            }
            return value;
        }
    }

    private static long any(long least, long greatest) {
        seed = seed * 6364136223846793005L + 1442695040888963407L;
        return least + (seed >>> 20) % (greatest - least + 1);
    }

    /** Limbs of zeros and of ones alone are as likely as others, so that guesses and carries meet their edges. */
    private static BigInteger anyAtLeastZero(int mostLimbs) {
        BigInteger value = BigInteger.ZERO;
        for (long limbs = any(0, mostLimbs); limbs > 0; limbs--) {
            long kind = any(0, 5);
            long limb = kind == 0 ? 0 : kind == 1 ? (1L << BITS) - 1 : kind == 2 ? any(0, 2) : kind == 3 ? 1L << any(0, BITS - 1) : any(0, (1L << BITS) - 1);
            value = value.shiftLeft(BITS).add(BigInteger.valueOf(limb));
        }
        return value;
    }

    private static BigInteger any(int mostLimbs) {
        BigInteger value = anyAtLeastZero(mostLimbs);
        return any(0, 1) == 0 ? value : value.negate();
    }

    private static long anyFactor() {
        long kind = any(0, 3);
        long most = (1L << 31) - 1;
        long size = kind == 0 ? most : kind == 1 ? any(0, 2) : any(0, most);
        return any(0, 1) == 0 ? size : -size;
    }

    private static void setsAndMultiplies() throws ReflectiveOperationException {
        BigInteger value = any(6);
        long factor = anyFactor();
        Number number = new Number(value);
        CHECK.due(value.toString(), "set", () -> text(number));
        CHECK.due(value.signum(), "sign", () -> answer(number, "sign"));
        number.call("times", factor);
        CHECK.due(value.multiply(BigInteger.valueOf(factor)).toString(), value + " times " + factor, () -> text(number));
        long plain = any(0, 1L << 40) << any(0, 22);
        number.call("set", -plain);
        CHECK.due(Long.toString(-plain), "set", () -> text(number));
    }

    private static void combines() throws ReflectiveOperationException {
        BigInteger first = any(6);
        BigInteger second = any(6);
        long own = anyFactor();
        long share = anyFactor();
        int moved = (int) any(0, 3);
        BigInteger due = first.multiply(BigInteger.valueOf(own)).add(second.multiply(BigInteger.valueOf(share)).shiftLeft(moved * BITS));
        Number number = new Number(first);
        Number other = new Number(second);
        number.call("combine", own, other.whole, share, moved);
        CHECK.due(due.toString(), first + " * " + own + " + " + second + " * " + share + " moved by " + moved, () -> text(number));
        CHECK.due(second.toString(), "the other one stays", () -> text(other));
    }

    private static void compares() throws ReflectiveOperationException {
        BigInteger second = anyAtLeastZero(4).add(BigInteger.ONE);
        int moved = (int) any(0, 2);
        BigInteger first = any(0, 1) == 0 ? anyAtLeastZero(6) : second.shiftLeft(moved * BITS).add(BigInteger.valueOf(any(-1, 1)));
        Number number = new Number(first);
        Number other = new Number(second);
        CHECK.due(first.compareTo(second.shiftLeft(moved * BITS)) >= 0, first + " is at least " + second + " moved by " + moved,
                () -> answer(number, "isAtLeast", other.whole, moved));
    }

    private static void divides() throws ReflectiveOperationException {
        BigInteger divisor = anyAtLeastZero(4).add(BigInteger.ONE);
        long kind = any(0, 3);
        long quotient = kind == 0 ? (1L << 60) - 1 : kind == 1 ? any(0, 5) << any(0, 57) : any(0, 1L << 43);
        BigInteger rest = any(0, 2) == 0 ? divisor.subtract(BigInteger.ONE) : anyAtLeastZero(4).mod(divisor);
        BigInteger dividend = divisor.multiply(BigInteger.valueOf(quotient)).add(rest);
        Number number = new Number(dividend);
        Number other = new Number(divisor);
        CHECK.due(quotient, dividend + " / " + divisor, () -> answer(number, "divide", other.whole));
        BigInteger scale = other.value().divide(divisor);
        CHECK.due(divisor.multiply(scale).toString(), "the divisor is doubled", () -> text(other));
        CHECK.due(rest.multiply(scale).toString(), "and the rest as well", () -> text(number));
    }

    private static void grows() throws ReflectiveOperationException {
        Number number = new Number(BigInteger.ONE);
        Number other = new Number(BigInteger.ONE);
        BigInteger value = BigInteger.ONE;
        for (int i = 0; i < 100; i++) {
            number.call("times", 120001L);
            value = value.multiply(BigInteger.valueOf(120001));
            BigInteger due = value;
            CHECK.due(due.toString(), "120001^" + i, () -> text(number));
            other.call("combine", 1L, number.whole, 1L, i);
        }
        number.call("timesPower", 119999L, 60);
        BigInteger due = value.multiply(BigInteger.valueOf(119999).pow(60));
        CHECK.due(due.toString(), "timesPower", () -> text(number));
        number.call("set", 5L);
        CHECK.due("5", "set anew", () -> text(number));
    }

    private static void dividesByNothing() throws ReflectiveOperationException {
        Number number = new Number(BigInteger.TEN);
        Number nothing = new Number(BigInteger.ZERO);
        CHECK.due(0L, "10 / 0", () -> answer(number, "divide", nothing.whole));
    }

    private static String text(Number number) {
        try {
            return number.value().toString();
        } catch (ReflectiveOperationException e) {
            throw new IllegalStateException(e);
        }
    }

    private static Object answer(Number number, String name, Object... parameters) {
        try {
            return number.call(name, parameters);
        } catch (ReflectiveOperationException e) {
            throw new IllegalStateException(e);
        }
    }
}
