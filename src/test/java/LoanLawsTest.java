import java.math.BigInteger;
import java.util.ArrayList;
import java.util.Arrays;
import java.util.List;

/**
 * What the document says about loans, held against each row of the tables of many loans. What the house says about interests and
 * instalments is held against what another house says about rounding, about a loan of what is left, and about a row of payments.
 */
public final class LoanLawsTest {
    private static final int LOANS = 900;
    private static final int EXACT_LOANS = 250;
    /** Loans that need not be rounded, and one that must be now and then. */
    private static final String[] ROUND_LOANS = {"lend(240000, 0, 6)", "lend(210000, 10000, 2)", "lend(331000, 10000, 3)", "lend(464100000, 10000, 4)",
        "lend(91000, 20000, 3)", "lend(671000, 20000, 4)", "lend(410000, 5000, 2)", "lend(1000000, 20000, 1)", "lend(27720000, 0, 12)",
        "lend(604661760, 0, 60)", "lend(100000000, 0, 7)", "lend(1261000, 5000, 3)"};
    private static final int AHEAD = 0, INTEREST = 1, PAID = 2, REPAID = 3, BEHIND = 4, RATE = 5, INSTALMENT = 6;

    private final Check check = new Check();
    private final Chance chance = new Chance(71);
    private AnnuityHouse house;
    private long money;
    private int periods;
    /** NONE where no change is told. */
    private int[] rates;
    private boolean[] holidays;
    private long[] earlies;
    private String told;
    private int calls;
    private int allowed = 0;
    private int refused = 0;

    private LoanLawsTest() {
    }

    public static void main(String[] args) {
        LoanLawsTest test = new LoanLawsTest();
        for (int loan = 0; loan < LOANS; loan++) {
            test.lend(loan % AnnuityHouse.EXACT);
            test.tell(test.periods > 40 ? 25 : 60);
            test.table();
        }
        for (int loan = 0; loan < EXACT_LOANS; loan++) {
            test.exactly();
        }
        test.check.due(true, "enough was told that need not be rounded", () -> test.allowed > EXACT_LOANS * 4);
        test.check.due(true, "enough was told that must be rounded", () -> test.refused > EXACT_LOANS * 2);
        test.check.end();
    }

    private void due(Object due, String what, Object found) {
        check.due(due, told + what, () -> found);
    }

    /** In a house that had another loan before, or none. */
    private void lend(int mode) {
        house = new AnnuityHouse();
        house.setMode(mode);
        calls = 1;
        told = "";
        if (chance.once(2)) {
            begin();
            tell(10);
        }
        begin();
    }

    private void begin() {
        money = Math.max(1, chance.upTo(1000000000));
        periods = chance.once(3) ? chance.anyInt(1, 60) : chance.anyInt(1, 12);
        rates = new int[periods + 1];
        Arrays.fill(rates, AnnuityHouse.NONE);
        rates[1] = chance.rate();
        holidays = new boolean[periods + 1];
        earlies = new long[periods + 1];
        told = "mode " + house.mode() + ", lend(" + money + ", " + rates[1] + ", " + periods + ")";
        long instalment = house.lend(money, rates[1], periods);
        due(instalment, ": the instalment that is answered", house.rowOf(1, INSTALMENT));
        calls += 3;
    }

    private void tell(int most) {
        for (int tells = chance.anyInt(0, Math.min(most, 2 * periods)); tells > 0; tells--) {
            int period = chance.anyInt(1, periods);
            if (chance.once(3) && period < periods) {
                holidays[period] = !holidays[period];
                told += ", holiday(" + period + ")";
                due(holidays[period], "", house.holiday(period));
            } else if (chance.once(2) && period > 1) {
                rates[period] = chance.rate();
                told += ", change(" + period + ", " + rates[period] + ")";
                due(house.change(period, rates[period]), ": the rows that are answered", house.rows());
            } else {
                earlies[period] = chance.once(9) ? 1000000000 : chance.upTo(money / periods * 2 + 5);
                told += ", early(" + period + ", " + earlies[period] + ")";
                due(house.early(period, earlies[period]), ": the rows that are answered", house.rows());
            }
            calls += 2;
        }
    }

    private void table() {
        long[] sums = new long[REPAID + 1];
        long[] before = new long[INSTALMENT + 1];
        int rows = house.rows();
        calls += 1 + 7 * rows + 4;
        due(true, ": not too many calls", calls <= 512);
        for (int period = 1; period <= rows; period++) {
            long[] row = new long[INSTALMENT + 1];
            for (int what = AHEAD; what <= INSTALMENT; what++) {
                row[what] = house.rowOf(period, what);
            }
            row(period, row, before);
            due(period == rows, ": only the last row leaves nothing", row[BEHIND] == 0);
            for (int what = INTEREST; what <= REPAID; what++) {
                sums[what] += row[what];
            }
            before = row;
        }
        for (int what = INTEREST; what <= REPAID; what++) {
            due(sums[what], ": total(" + what + ")", house.total(what));
        }
        due(money, ": all that is repaid", sums[REPAID]);
        due((float) sums[INTEREST] / (float) sums[PAID], ": interestShare()", house.interestShare());
    }

    private void row(int period, long[] row, long[] before) {
        String which = ": row " + period;
        due(period == 1 ? money : before[BEHIND], which + ", ahead", row[AHEAD]);
        due(rates[period] == AnnuityHouse.NONE ? before[RATE] : rates[period], which + ", rate", row[RATE]);
        interest(which, row);
        if (rates[period] == AnnuityHouse.NONE) {
            due(before[INSTALMENT], which + ", the instalment goes on", row[INSTALMENT]);
        } else {
            instalment(which, row, periods - period + 1);
        }
        due(paid(period, row), which + ", paid", row[PAID]);
        due(row[PAID] - row[INTEREST], which + ", repaid", row[REPAID]);
        due(row[AHEAD] - row[REPAID], which + ", behind", row[BEHIND]);
    }

    private long paid(int period, long[] row) {
        if (holidays[period]) {
            return 0;
        }
        long owed = row[AHEAD] + row[INTEREST];
        long paid = period == periods ? owed : Math.min(owed, row[INSTALMENT]);
        return paid + Math.min(earlies[period], owed - paid);
    }

    private AnnuityHouse otherHouse() {
        AnnuityHouse other = new AnnuityHouse();
        other.setMode(house.mode());
        return other;
    }

    private void interest(String which, long[] row) {
        BigInteger common = BigInteger.valueOf(row[RATE]).gcd(BigInteger.valueOf(100000));
        long over = row[AHEAD] * (row[RATE] / common.longValue());
        if (over <= 1000000000000L) {
            due(otherHouse().round(over, 100000 / common.longValue(), 0), which + ", interest", row[INTEREST]);
        }
    }

    /** As for a loan of what is left; and paid in each period of a row, it is worth what is left, as nearly as it is rounded. */
    private void instalment(String which, long[] row, int many) {
        long left = row[AHEAD];
        int points = (int) row[RATE];
        if (left <= 1000000000) {
            due(otherHouse().lend(left, points, many), which + ", the instalment of a loan", row[INSTALMENT]);
        }
        if (left <= 1000000000 && many <= 40 && row[INSTALMENT] < 1000000000) {
            int exactly = balance(left, points, many, row[INSTALMENT]);
            int withMore = balance(left, points, many, row[INSTALMENT] + 1);
            int withLess = row[INSTALMENT] == 0 ? -1 : balance(left, points, many, row[INSTALMENT] - 1);
            boolean isUp = house.mode() == AnnuityHouse.UP || house.mode() == AnnuityHouse.CEILING;
            boolean isDown = house.mode() == AnnuityHouse.DOWN || house.mode() == AnnuityHouse.FLOOR;
            due(true, which + ", a cent more is too much, a cent less too little", withMore > 0 && withLess < 0);
            due(true, which + ", the way to round", exactly == 0 || (exactly > 0 ? !isDown : !isUp));
        }
    }

    /** The sign of what many payments are worth at the beginning, less what is left. */
    private static int balance(long left, int points, int many, long paid) {
        AnnuityHouse row = new AnnuityHouse();
        row.pay(0, -left);
        row.payMany(1, many, paid, 0);
        return row.signAt(points);
    }

    /**
     * What is told by EXACT is refused just if tables that are rounded up and down then differ, as the first number that has to be
     * rounded stands in both of them; else it is told, and the table is the same as theirs.
     */
    private void exactly() {
        List<String> accepted = new ArrayList<>();
        AnnuityHouse exact = new AnnuityHouse();
        exact.setMode(AnnuityHouse.EXACT);
        int last = 0;
        for (int tells = 0; tells < 14; tells++) {
            String call = last == 0 || chance.once(15) ? ROUND_LOANS[chance.anyInt(0, ROUND_LOANS.length - 1)] : anyTold(last);
            List<String> tried = new ArrayList<>(accepted);
            tried.add(call);
            String up = tableBehind("UP", tried);
            boolean isWhole = up.equals(tableBehind("DOWN", tried));
            String answer = Script.answer(exact, call);
            check.due(isWhole, tried + " by EXACT answers " + answer, () -> !answer.equals("IllegalState"));
            if (isWhole) {
                accepted.add(call);
                allowed++;
                last = call.startsWith("lend") ? Integer.parseInt(call.replaceAll(".*, |\\)", "")) : last;
            } else {
                refused++;
            }
            String due = isWhole ? up : tableBehind("DOWN", accepted);
            check.due(due, tried + ", the table by EXACT", () -> tableOf(exact));
        }
    }

    private String anyTold(int last) {
        int period = chance.anyInt(1, last);
        int[] rates = {0, 10000, 20000, 5000, 25, 1};
        if (chance.once(3) && period < last) {
            return "holiday(" + period + ")";
        }
        if (chance.once(2) && period > 1) {
            return "change(" + period + ", " + rates[chance.anyInt(0, rates.length - 1)] + ")";
        }
        return "early(" + period + ", " + (chance.once(2) ? 10 : 121) * chance.anyInt(0, 2000) * chance.anyInt(1, 10) + ")";
    }

    private static String tableBehind(String mode, List<String> calls) {
        AnnuityHouse other = new AnnuityHouse();
        Script.answer(other, "setMode(" + mode + ")");
        calls.forEach(call -> Script.answer(other, call));
        return tableOf(other);
    }

    private static String tableOf(AnnuityHouse one) {
        StringBuilder table = new StringBuilder();
        for (int period = 1; period <= 60; period++) {
            for (int what : new int[] {INTEREST, PAID, RATE, INSTALMENT}) {
                table.append(Script.answer(one, "rowOf(" + period + ", " + what + ")")).append(' ');
            }
        }
        return table.toString();
    }
}
