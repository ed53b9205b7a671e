import java.util.ArrayList;
import java.util.List;
import java.util.Locale;
import java.util.function.Function;

/**
 * Each call that rounds, where what it rounds is a half between two whole numbers, next to one, or whole: by each way to
 * round, compared with the reference. Such numbers are rare, so they are looked for among small and round inputs.
 */
public final class HalvesTest {
    private static final int TRIES = 6000;
    private static final int ENOUGH = 40;
    /** Rates at which carrying on, or back, makes halves of whole numbers. */
    private static final int[] RATES = {0, 10000, 20000, 12500, 5000, 4000, 12000, 2000, 800, 1};

    private final Check check = new Check();
    private long seed = 3;

    private HalvesTest() {
    }

    /** What is told to a house first, and the call that rounds. */
    private record Run(List<String> first, String call) {
    }

    public static void main(String[] args) {
        HalvesTest test = new HalvesTest();
        test.find("round", true, HalvesTest::fraction);
        test.find("round next to a half", false, HalvesTest::nextToHalf);
        test.find("worth", true, HalvesTest::worth);
        test.find("lend", true, HalvesTest::lent);
        test.find("price", true, HalvesTest::price);
        test.find("accrued", true, HalvesTest::accrued);
        test.find("lifeWorth", true, run -> run.insured("lifeWorth(%d, %d, %d)"));
        test.find("deathWorth", true, run -> run.insured("deathWorth(%d, %d, %d)"));
        test.find("premium", true, run -> run.insured("premium(%d, %d, %d)"));
        test.find("reserve forward", true, run -> run.reserve(false));
        test.find("reserve back", true, run -> run.reserve(true));
        test.find("tax", true, HalvesTest::tax);
        test.check.end();
    }

    private long any(long least, long greatest) {
        seed = seed * 6364136223846793005L + 1442695040888963407L;
        return least + (seed >>> 20) % (greatest - least + 1);
    }

    /** Digits are the same everywhere. */
    private static String told(String pattern, Object... values) {
        return String.format(Locale.ROOT, pattern, values);
    }

    private int rate() {
        return RATES[(int) any(0, RATES.length - 1)];
    }

    /** Enough halves with an even and with an odd number below them, whole numbers, and others. */
    private void find(String told, boolean hasHalves, Function<HalvesTest, Run> next) {
        int[] found = new int[4];
        for (int i = 0; i < TRIES; i++) {
            Run run = next.apply(this);
            int kind = kindOf(run);
            if (found[kind] < ENOUGH) {
                found[kind]++;
                compare(run);
            }
        }
        check.due(true, told + ": others were found", () -> found[0] == ENOUGH);
        if (hasHalves) {
            check.due(true, told + ": whole numbers were found", () -> found[1] >= ENOUGH / 4);
            check.due(true, told + ": halves were found", () -> found[2] >= ENOUGH / 4 && found[3] >= ENOUGH / 4);
        }
    }

    private static int kindOf(Run run) {
        String exact = answer(run, "EXACT");
        String down = answer(run, "HALF_DOWN");
        if (!exact.equals("IllegalState")) {
            return 1;
        }
        if (down.equals(answer(run, "HALF_UP"))) {
            return 0;
        }
        return down.equals(answer(run, "HALF_EVEN")) ? 2 : 3;
    }

    private static String answer(Run run, String mode) {
        Reference reference = new Reference();
        run.first.forEach(call -> Script.answer(reference, call));
        Script.answer(reference, "setMode(" + mode + ")");
        return Script.answer(reference, run.call);
    }

    private void compare(Run run) {
        AnnuityHouse house = new AnnuityHouse();
        Reference reference = new Reference();
        List<String> calls = new ArrayList<>(run.first);
        for (int mode = AnnuityHouse.UP; mode <= AnnuityHouse.EXACT; mode++) {
            calls.add("setMode(" + mode + ")");
            calls.add(run.call);
            if (run.call.startsWith("lend")) {
                for (int what = 0; what <= 6; what++) {
                    calls.add("rowOf(1, " + what + ")");
                    calls.add("rowOf(2, " + what + ")");
                }
            }
        }
        for (String call : calls) {
            check.due(Script.answer(reference, call), run + ": " + call, () -> Script.answer(house, call));
        }
    }

    private Run fraction() {
        return new Run(List.of(), told("round(%d, %d, %d)", any(-60, 60), any(1, 80), any(0, 2)));
    }

    private Run nextToHalf() {
        long under = any(0, 1) == 0 ? any(499999999990L, 500000000000L) * 2 : any(100, 1000000) * 2;
        long halves = any(-1000, 1000) * 2 + 1;
        long over = under / 2 * halves + any(-1, 1);
        return new Run(List.of(), told("round(%d, %d, 0)", Math.max(-1000000000000L, Math.min(1000000000000L, over)), under));
    }

    /** Halves far ahead of a period or far behind it, and a cent far away that takes a little from them. */
    private Run worth() {
        int points = rate();
        int common = (int) Ratio.of(100000 + points, 100000).under.longValueExact();
        boolean isOn = any(0, 1) == 0;
        long base = isOn ? common : (100000L + points) / (100000 / common);
        int far = (int) any(1, 9);
        long half = 1;
        for (int i = 0; i < far && half * base <= 100000000; i++) {
            half *= base;
        }
        int period = (int) any(9, 31);
        List<String> first = new ArrayList<>();
        first.add(told("pay(%d, %d)", isOn ? period - far : period + far, half / (half % 2 == 0 ? 2 : 1) * any(-4, 4)));
        first.add(told("pay(%d, %d)", period, any(-30, 30)));
        if (any(0, 2) == 0) {
            first.add(told("pay(%d, %d)", isOn ? 40 : 0, any(-1, 1)));
        }
        return new Run(first, told("worth(%d, %d)", period, points));
    }

    private Run lent() {
        int[] moneys = {105, 210, 5, 10, 50, 331, 655, 7, 12, 50000, 2100};
        long money = any(0, 1) == 0 ? any(1, 300) : moneys[(int) any(0, moneys.length - 1)] * any(1, 30);
        return new Run(List.of(), told("lend(%d, %d, %d)", money, rate(), any(1, 4)));
    }

    private Run price() {
        long face = any(0, 60) * (any(0, 1) == 0 ? 1 : any(0, 1) == 0 ? 18 : 338);
        return new Run(List.of(), told("price(%d, %d, %d, %d)", any(0, 1) == 0 ? 0 : any(0, 90), face, any(1, 3), rate()));
    }

    private Run accrued() {
        long length = any(1, 366);
        return new Run(List.of(), told("accrued(%d, %d, %d)", any(0, 1) == 0 ? any(0, 1000000000) : any(0, 400), any(0, length), length));
    }

    private List<String> lives() {
        List<String> first = new ArrayList<>();
        long left = any(1, 12);
        for (long ages = any(1, 5); ages > 0; ages--) {
            first.add("live(" + left + ")");
            left = any(Math.max(1, left / 2), left);
        }
        return first;
    }

    private int lifeRate() {
        int[] rates = {0, 0, 20000, 20000, 4000, rate()};
        return rates[(int) any(0, rates.length - 1)];
    }

    private long insuredMoney() {
        return any(0, 1) == 0 ? any(0, 500) : any(0, 60) * (any(0, 1) == 0 ? 36 : 18);
    }

    private Run insured(String call) {
        List<String> first = lives();
        return new Run(first, told(call, any(0, first.size() - 1), insuredMoney(), lifeRate()));
    }

    private Run reserve(boolean isBack) {
        List<String> first = lives();
        long age = any(0, first.size() - 1);
        return new Run(first, told("reserve(%d, %d, %d, %d, %b)", age, any(0, first.size() - 1 - age), insuredMoney(), lifeRate(), isBack));
    }

    private Run tax() {
        List<String> first = new ArrayList<>();
        long from = any(0, 5);
        for (long steps = any(1, 8); steps > 0; steps--) {
            first.add(told("step(%d, %d)", from, any(0, 1) == 0 ? any(0, 10) * 100 : any(0, 8) * 125));
            from += any(1, 40);
        }
        return new Run(first, told("tax(%d)", any(0, 2) == 0 ? any(999999990000L, 1000000000000L) : any(0, 400)));
    }
}
