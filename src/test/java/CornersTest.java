import java.util.ArrayList;
import java.util.List;

/**
 * Each call with all its parameters at their corners: the least and the greatest that are allowed, the ones beside them, and the
 * ends of int and long, one with another, in an empty, a small and a full house, compared with the reference.
 */
public final class CornersTest {
    private static final int MOST_CALLS = 512;
    private static final String INTS = "int.MIN int.MAX";
    private static final String LONGS = "long.MIN long.MAX";
    private static final String AMOUNT = "-10^9-1 -10^9 0 10^9 10^9+1 " + LONGS;
    private static final String MONEY = "-1 0 1 10^9 10^9+1 " + LONGS;
    private static final String MUCH = "-1 0 1 10^12 10^12+1 " + LONGS;
    private static final String POINTS = "-1 0 1 20000 20001 " + INTS;
    private static final String PERIOD = "-1 0 1 39 40 41 " + INTS;
    private static final String AGE = "-1 0 1 2 3 29 30 " + INTS;
    private static final String LOAN_PERIOD = "-1 0 1 2 3 4 5 59 60 61 " + INTS;

    /** Calls that change nothing. */
    private static final String[][] QUESTIONS = {
        {"mode"}, {"changes"}, {"rowYield"}, {"rows"}, {"meanAmount"}, {"interestShare"},
        {"round", "-10^12-1 -10^12 -7 0 7 10^12 10^12+1 " + LONGS, "-1 0 1 2 3 10^12 10^12+1 " + LONGS, "-1 0 1 6 7 " + INTS},
        {"amount", PERIOD}, {"worth", PERIOD, POINTS}, {"signAt", POINTS},
        {"rowOf", LOAN_PERIOD, "-1 0 1 2 3 4 5 6 7 " + INTS}, {"total", "-1 0 1 2 3 4 " + INTS},
        {"price", "-1 0 7 10^9 10^9+1 long.MAX", "-1 0 5 10^9 10^9+1 long.MIN", "0 1 2 40 41 int.MAX", "-1 0 1 20000 20001 int.MIN"},
        {"bondYield", "-1 0 10^9 10^9+1", "-1 0 5 10^9 10^9+1", "0 1 40 41", "-1 0 1 4997278488 4997278489 41000000000 40999999999 10^12 10^12+1"},
        {"accrued", MONEY, "-1 0 1 2 365 366 367 " + INTS, "-1 0 1 2 365 366 367 " + INTS},
        {"lifeWorth", AGE, MONEY, POINTS}, {"deathWorth", AGE, MONEY, POINTS}, {"premium", AGE, MONEY, POINTS},
        {"reserve", "-1 0 1 2 29 30 int.MIN int.MAX", "-1 0 1 2 3 29 30 int.MIN int.MAX", "-1 0 7 10^9 10^9+1", "-1 0 1 20000 20001", "true false"},
        {"part", MUCH, "-1 0 1 2 3 11 12 " + INTS}, {"tax", MUCH + " 2 10 11 99 100 101 10^9 10^9+1"}, {"untaxed", MONEY + " 2 99 100 101 10^9-1"},
        {"errors", POINTS}};
    /** Calls that change the house, each one in a house of its own. */
    private static final String[][] CHANGES = {
        {"setMode", "-1 0 1 2 3 4 5 6 7 8 " + INTS}, {"pay", PERIOD, AMOUNT + " 1 -1"},
        {"payMany", PERIOD, "-1 0 1 2 40 41 42 " + INTS, "-10^9-1 -10^9 0 10^9 10^9+1", "-10^6-1 -10^6 0 1 10^6 10^6+1 long.MIN"},
        {"clearRow"}, {"lend", MONEY, POINTS, "-1 0 1 2 59 60 61 " + INTS}, {"holiday", LOAN_PERIOD}, {"change", LOAN_PERIOD, POINTS},
        {"early", LOAN_PERIOD, MONEY}, {"live", "-1 0 1 2 3 4 5 6 10^6 10^6+1 " + INTS}, {"clearLives"},
        {"weigh", "-1 0 1 10^6 10^6+1 " + INTS}, {"clearWeights"}, {"step", "-1 0 1 99 100 101 10^9-1 10^9 10^9+1 " + LONGS, "-1 0 1 1000 1001 " + INTS},
        {"clearSteps"}};
    private static final String[] STATES = {
        "",
        """
        pay(0, -1000); payMany(1, 3, 400, 1); lend(210, 10000, 4); holiday(2); change(3, 5000); early(1, 10); live(5); live(4)
        live(4); weigh(0); weigh(2); weigh(3)
        step(0, 100); step(100, 500)
        """,
        """
        payMany(0, 41, 10^9, 0); lend(10^9, 20000, 60); change(30, 19999); holiday(59); early(60, 5); 29 x live(10^6); live(5)
        12 x weigh(10^6); step(0, 1)
        step(1, 999); step(2, 0); step(10, 5); step(100, 7); step(1000, 333); step(10000, 200); step(10^9-1, 1000)
        """,
        "pay(0, 10^9); payMany(1, 40, -10^8, 5); lend(210, 10000, 2); change(2, 20000); live(5); live(5); weigh(5); step(10^9, 0); setMode(EXACT)"};
    private static final List<String> LOOKS = List.of("mode()", "amount(0)", "amount(40)", "changes()", "rows()", "rowOf(1, 6)", "rowOf(2, 2)", "total(1)", "total(2)",
            "lifeWorth(0, 10^9, 20000)", "part(10^12, 0)", "tax(10^12)", "clearRow()", "clearLives()", "clearWeights()", "clearSteps()");

    private final Check check = new Check();
    private AnnuityHouse house;
    private Reference reference;
    private int calls = 0;

    private CornersTest() {
    }

    public static void main(String[] args) {
        CornersTest test = new CornersTest();
        for (String state : STATES) {
            test.ask(state);
            test.change(state);
        }
        test.check.end();
    }

    private void ask(String state) {
        begin(state);
        for (String[] question : QUESTIONS) {
            for (String call : callsOf(question)) {
                if (calls == MOST_CALLS) {
                    begin(state);
                }
                both(call);
            }
        }
    }

    private void change(String state) {
        for (String[] change : CHANGES) {
            for (String call : callsOf(change)) {
                begin(state);
                both(call);
                LOOKS.forEach(this::both);
            }
        }
    }

    private void begin(String state) {
        house = new AnnuityHouse();
        reference = new Reference();
        calls = 0;
        Script.stepsOf(state).forEach(step -> both(step.call()));
    }

    private void both(String call) {
        calls++;
        check.due(Script.answer(reference, call), call, () -> Script.answer(house, call));
    }

    /** One parameter with another. */
    private static List<String> callsOf(String[] told) {
        List<String> begun = List.of(told[0] + "(");
        for (int i = 1; i < told.length; i++) {
            List<String> longer = new ArrayList<>();
            for (String call : begun) {
                for (String value : told[i].split(" ")) {
                    longer.add(call + (i > 1 ? ", " : "") + value);
                }
            }
            begun = longer;
        }
        List<String> calls = new ArrayList<>();
        begun.forEach(call -> calls.add(call + ")"));
        return calls;
    }
}
