import java.lang.management.ManagementFactory;
import java.util.List;

/**
 * All calls of one run live in one room of some 600,000 objects and 7.3 million fields and elements: told in bytes here,
 * with half of it kept free.
 */
public final class RoomTest {
    private static final int CALLS = 512;
    private static final long MOST_BYTES = 7300000L * 8 / 2;
    private static final List<String> FULL = List.of("payMany(0, 41, 10^9, 0)", "pay(0, -10^9)", "pay(0, -10^9)", "lend(10^9, 19999, 60)",
            "change(30, 19997)", "30 x live(10^6)", "12 x weigh(10^6)", "step(0, 1)", "step(5, 999)", "step(10^9, 1000)");
    private static final List<String> DEAREST = List.of("round(10^12, 7, 6)", "worth(40, 19999)", "worth(0, 19999)", "signAt(19999)", "rowYield()",
            "lend(10^9, 19999, 60)", "holiday(5)", "change(60, 19991)", "early(9, 77)", "total(2)", "price(10^9, 10^9, 40, 19999)",
            "bondYield(10^9, 10^9, 40, 10^9)", "lifeWorth(0, 10^9, 19999)", "deathWorth(0, 10^9, 19999)", "premium(0, 10^9, 19999)",
            "reserve(0, 29, 10^9, 19999, true)", "reserve(0, 29, 10^9, 19999, false)", "part(10^12, 11)", "tax(10^12)", "untaxed(10^9)",
            "errors(19999)", "meanAmount()", "interestShare()");

    private RoomTest() {
    }

    public static void main(String[] args) {
        Check check = new Check();
        for (String dear : DEAREST) {
            check.due(true, CALLS + " calls of a full house, most of them " + dear + ", fit the room", () -> bytesOf(dear) < MOST_BYTES);
        }
        check.end();
    }

    /** What the calls make themselves, and what the calling of them as text makes, which is the same for all. */
    private static long bytesOf(String dear) {
        long before = bytes();
        AnnuityHouse house = new AnnuityHouse();
        List<Script.Step> full = Script.stepsOf(String.join("\n", FULL));
        for (Script.Step step : full) {
            Script.answer(house, step.call());
        }
        for (int call = full.size(); call < CALLS; call++) {
            Script.answer(house, dear);
        }
        return bytes() - before;
    }

    private static long bytes() {
        com.sun.management.ThreadMXBean threads = (com.sun.management.ThreadMXBean) ManagementFactory.getThreadMXBean();
        return threads.getThreadAllocatedBytes(Thread.currentThread().getId());
    }
}
