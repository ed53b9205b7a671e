import java.util.ArrayList;
import java.util.List;

/** All that can be seen of a house behind a run of calls, what is told but hidden by the end of a table too. */
final class Sight {
    /** A house is promised so many calls and no more. */
    static final int MOST_CALLS = 512;

    private static final List<List<String>> LOOKS = List.of(row(), table(), terms(), others());

    private Sight() {
    }

    /** Each look is taken on a house of its own, as together they are too many calls for one. */
    static String behind(List<String> calls) {
        StringBuilder seen = new StringBuilder();
        for (List<String> look : LOOKS) {
            AnnuityHouse house = new AnnuityHouse();
            for (String call : calls) {
                Script.answer(house, call);
            }
            if (calls.size() + look.size() > MOST_CALLS) {
                throw new IllegalStateException("too many calls: " + calls.size() + " and " + look.size());
            }
            for (String call : look) {
                seen.append(call).append(' ').append(Script.answer(house, call)).append('\n');
            }
        }
        return seen.toString();
    }

    /** The first line of one sight that is not in the other one. */
    static String difference(String due, String seen) {
        String[] dueLines = due.split("\n");
        String[] seenLines = seen.split("\n");
        for (int i = 0; i < dueLines.length; i++) {
            if (!dueLines[i].equals(seenLines[i])) {
                return seenLines[i] + ", not " + dueLines[i];
            }
        }
        return "";
    }

    private static List<String> row() {
        List<String> calls = new ArrayList<>(List.of("mode()", "changes()", "rowYield()", "meanAmount()"));
        for (int period = 0; period <= 40; period++) {
            calls.add("amount(" + period + ")");
        }
        calls.addAll(List.of("signAt(0)", "signAt(20000)", "worth(0, 5000)", "errors(5000)", "clearRow()", "mode()"));
        return calls;
    }

    private static List<String> table() {
        List<String> calls = new ArrayList<>(List.of("rows()", "total(1)", "total(2)", "total(3)", "interestShare()"));
        for (int period = 1; period <= 60; period++) {
            for (int what = 0; what <= 6; what++) {
                // What is repaid and what is left behind follow from the others.
                if (what != 3 && what != 4) {
                    calls.add("rowOf(" + period + ", " + what + ")");
                }
            }
        }
        return calls;
    }

    /** Tells whether each period is a holiday and what is paid in it, both ways, and takes its early payment away. */
    private static List<String> terms() {
        List<String> calls = new ArrayList<>(List.of("setMode(HALF_EVEN)"));
        for (int period = 1; period <= 60; period++) {
            if (period < 60) {
                calls.add("holiday(" + period + ")");
                calls.add("rowOf(" + period + ", 2)");
                calls.add("holiday(" + period + ")");
            }
            calls.add("rowOf(" + period + ", 2)");
            calls.add("early(" + period + ", 0)");
            calls.add("rowOf(" + period + ", 5)");
        }
        return calls;
    }

    private static List<String> others() {
        List<String> calls = new ArrayList<>(List.of("setMode(DOWN)"));
        for (int age = 0; age < 30; age++) {
            calls.add("lifeWorth(" + age + ", 10^9, 0)");
            calls.add("deathWorth(" + age + ", 10^9, 10000)");
        }
        calls.addAll(List.of("premium(0, 10^9, 3000)", "reserve(0, 1, 10^9, 3000, true)", "live(10^6)", "clearLives()"));
        for (int which = 0; which < 12; which++) {
            calls.add("part(10^12, " + which + ")");
            calls.add("part(77, " + which + ")");
        }
        calls.addAll(List.of("weigh(1)", "clearWeights()"));
        for (int power = 0; power <= 12; power++) {
            calls.add("tax(10^" + power + ")");
            calls.add("tax(10^" + power + "-1)");
        }
        for (int power = 0; power <= 9; power++) {
            calls.add("untaxed(10^" + power + ")");
        }
        calls.addAll(List.of("step(10^9, 1)", "clearSteps()"));
        return calls;
    }
}
