/** Promises 13 to 19 and 38: loans. */
public final class LoanTest {
    private static final Check CHECK = new Check();
    private static final long BILLION = 1000000000L;

    public static void main(String[] args) {
        lends();
        lendsInRange();
        fillsTheTable();
        makesHolidays();
        changesRates();
        tellsInTheLastPeriods();
        paysEarly();
        endsAtOnce();
        roundsByTheWayOfThen();
        refusesByExact();
        readsRows();
        needsLoan();
        shares();
        CHECK.end();
    }

    private static void row(AnnuityHouse house, int period, long... due) {
        for (int w = 0; w < due.length; w++) {
            int what = w;
            CHECK.due(due[w], "18: rowOf(" + period + ", " + w + ")", () -> house.rowOf(period, what));
        }
    }

    private static void lends() {
        AnnuityHouse house = new AnnuityHouse();
        // 1000 * 0.1 / (1 - 1.1^-3) is 402.11...
        CHECK.due(402L, "13: lend(1000, 10000, 3)", () -> house.lend(1000, 10000, 3));
        CHECK.due(3, "17: rows()", () -> house.rows());
        house.setMode(AnnuityHouse.UP);
        CHECK.due(403L, "13: rounded UP", () -> house.lend(1000, 10000, 3));
        CHECK.due(334L, "13: at no rate, UP", () -> house.lend(1000, 0, 3));
        house.setMode(AnnuityHouse.DOWN);
        CHECK.due(333L, "13: at no rate, DOWN", () -> house.lend(1000, 0, 3));
        CHECK.due(0L, "13: an instalment of 0", () -> house.lend(1, 0, 60));
        CHECK.due(60, "17: nothing is paid but at the end", () -> house.rows());
        row(house, 59, 1, 0, 0, 0, 1, 0, 0);
        row(house, 60, 1, 0, 1, 1, 0, 0, 0);
        CHECK.due(1200000000L, "13: one period", () -> house.lend(BILLION, 20000, 1));
        house.setMode(AnnuityHouse.HALF_EVEN);
        // 10^9 * 0.2 / (1 - 1.2^-60) is 200003549.4...
        CHECK.due(200003549L, "13: the greatest", () -> house.lend(BILLION, 20000, 60));
    }

    private static void lendsInRange() {
        AnnuityHouse house = new AnnuityHouse();
        house.lend(1000, 0, 4);
        CHECK.range("13: money 0", () -> house.lend(0, 0, 4));
        CHECK.range("13: money too great", () -> house.lend(BILLION + 1, 0, 4));
        CHECK.range("13: money below 0", () -> house.lend(Long.MIN_VALUE, 0, 4));
        CHECK.range("13: points -1", () -> house.lend(1, -1, 4));
        CHECK.range("13: points 20001", () -> house.lend(1, 20001, 4));
        CHECK.range("13: periods 0", () -> house.lend(1, 0, 0));
        CHECK.range("13: periods 61", () -> house.lend(1, 0, 61));
        CHECK.due(4, "13: refused, the loan is as before", () -> house.rows());
        row(house, 1, 1000, 0, 250, 250, 750, 0, 250);
    }

    private static void fillsTheTable() {
        AnnuityHouse house = new AnnuityHouse();
        house.lend(1000, 10000, 3);
        row(house, 1, 1000, 100, 402, 302, 698, 10000, 402);
        row(house, 2, 698, 70, 402, 332, 366, 10000, 402);
        row(house, 3, 366, 37, 403, 366, 0, 10000, 402);
        CHECK.due(207L, "19: interests", () -> house.total(1));
        CHECK.due(1207L, "19: paid", () -> house.total(2));
        CHECK.due(1000L, "19: repaid", () -> house.total(3));
        house.setMode(AnnuityHouse.UP);
        house.lend(10, 0, 6);
        // Instalments of 2 end the loan in the fifth period.
        CHECK.due(5, "17: the table ends when nothing is left", () -> house.rows());
        row(house, 5, 2, 0, 2, 2, 0, 0, 2);
    }

    private static void makesHolidays() {
        AnnuityHouse house = new AnnuityHouse();
        house.lend(1000, 10000, 3);
        CHECK.due(true, "14: holiday(1)", () -> house.holiday(1));
        row(house, 1, 1000, 100, 0, -100, 1100, 10000, 402);
        row(house, 2, 1100, 110, 402, 292, 808, 10000, 402);
        row(house, 3, 808, 81, 889, 808, 0, 10000, 402);
        CHECK.due(1000L, "19: repaid, a negative one too", () -> house.total(3));
        CHECK.due(true, "14: holiday(2)", () -> house.holiday(2));
        row(house, 3, 1210, 121, 1331, 1210, 0, 10000, 402);
        CHECK.due(false, "14: holiday(1) again", () -> house.holiday(1));
        row(house, 1, 1000, 100, 402, 302, 698, 10000, 402);
        row(house, 2, 698, 70, 0, -70, 768, 10000, 402);
        CHECK.range("14: holiday(0)", () -> house.holiday(0));
        CHECK.range("14: the last period", () -> house.holiday(3));
        CHECK.range("14: holiday(-1)", () -> house.holiday(Integer.MIN_VALUE));
        row(house, 2, 698, 70, 0, -70, 768, 10000, 402);
        house.lend(1000, 10000, 3);
        row(house, 2, 698, 70, 402, 332, 366, 10000, 402);
        house.lend(1000, 10000, 1);
        CHECK.range("14: a loan of one period has none", () -> house.holiday(1));
        house.lend(1000, 0, 60);
        CHECK.due(true, "14: holiday(59)", () -> house.holiday(59));
        CHECK.range("14: holiday(60)", () -> house.holiday(60));
    }

    private static void changesRates() {
        AnnuityHouse house = new AnnuityHouse();
        house.lend(1000, 10000, 3);
        CHECK.due(3, "15: change(2, 20000)", () -> house.change(2, 20000));
        // 698 for two periods at 0.2: 698 * 1.44 / 2.2 is 456.87...
        row(house, 1, 1000, 100, 402, 302, 698, 10000, 402);
        row(house, 2, 698, 140, 457, 317, 381, 20000, 457);
        row(house, 3, 381, 76, 457, 381, 0, 20000, 457);
        CHECK.due(3, "15: change(3, 0)", () -> house.change(3, 0));
        row(house, 2, 698, 140, 457, 317, 381, 20000, 457);
        row(house, 3, 381, 0, 381, 381, 0, 0, 381);
        CHECK.due(3, "15: change(2, 0) in place of the one before", () -> house.change(2, 0));
        row(house, 2, 698, 0, 349, 349, 349, 0, 349);
        row(house, 3, 349, 0, 349, 349, 0, 0, 349);
        CHECK.due(true, "14: a holiday in the changed period", () -> house.holiday(2));
        row(house, 2, 698, 0, 0, 0, 698, 0, 349);
        row(house, 3, 698, 0, 698, 698, 0, 0, 698);
        CHECK.range("15: change(1, 0)", () -> house.change(1, 0));
        CHECK.range("15: change(4, 0)", () -> house.change(4, 0));
        CHECK.range("15: change(2, -1)", () -> house.change(2, -1));
        CHECK.range("15: change(2, 20001)", () -> house.change(2, 20001));
        row(house, 3, 698, 0, 698, 698, 0, 0, 698);
        house.lend(1000, 10000, 3);
        row(house, 3, 366, 37, 403, 366, 0, 10000, 402);
        house.lend(5, 0, 1);
        CHECK.range("15: a loan of one period has no change", () -> house.change(1, 5));
        CHECK.range("15: nor a second period", () -> house.change(2, 5));
        // After an early payment the same rate, told anew, makes the instalment less.
        house.lend(1000, 0, 4);
        house.early(1, 375);
        CHECK.due(4, "15: change(2, 0)", () -> house.change(2, 0));
        row(house, 2, 375, 0, 125, 125, 250, 0, 125);
    }

    private static void tellsInTheLastPeriods() {
        AnnuityHouse house = new AnnuityHouse();
        house.lend(6000, 0, 60);
        CHECK.due(60, "15: change(60, 10000)", () -> house.change(60, 10000));
        CHECK.due(60, "16: early(60, 7)", () -> house.early(60, 7));
        CHECK.due(true, "14: holiday(59)", () -> house.holiday(59));
        row(house, 59, 200, 0, 0, 0, 200, 0, 100);
        row(house, 60, 200, 20, 220, 200, 0, 10000, 220);
        CHECK.due(60, "16: early(58, 100)", () -> house.early(58, 100));
        row(house, 60, 100, 10, 110, 100, 0, 10000, 110);
    }

    private static void paysEarly() {
        AnnuityHouse house = new AnnuityHouse();
        house.lend(1000, 10000, 3);
        CHECK.due(3, "16: early(1, 100)", () -> house.early(1, 100));
        row(house, 1, 1000, 100, 502, 402, 598, 10000, 402);
        row(house, 2, 598, 60, 402, 342, 256, 10000, 402);
        row(house, 3, 256, 26, 282, 256, 0, 10000, 402);
        CHECK.due(2, "16: early(1, 350) ends it one period sooner", () -> house.early(1, 350));
        row(house, 2, 348, 35, 383, 348, 0, 10000, 402);
        CHECK.due(2, "16: early(2, 5) has nothing to pay", () -> house.early(2, 5));
        row(house, 2, 348, 35, 383, 348, 0, 10000, 402);
        CHECK.due(3, "16: early(1, 0) takes it back", () -> house.early(1, 0));
        row(house, 2, 698, 70, 407, 337, 361, 10000, 402);
        CHECK.due(1, "16: early(1, 698) pays all", () -> house.early(1, 698));
        row(house, 1, 1000, 100, 1100, 1000, 0, 10000, 402);
        CHECK.due(2, "16: early(1, 697) leaves a cent", () -> house.early(1, 697));
        row(house, 2, 1, 0, 1, 1, 0, 10000, 402);
        CHECK.due(1, "16: early(1, 10^9) pays not more than all", () -> house.early(1, BILLION));
        row(house, 1, 1000, 100, 1100, 1000, 0, 10000, 402);
        CHECK.due(true, "14: holiday(1)", () -> house.holiday(1));
        row(house, 1, 1000, 100, 0, -100, 1100, 10000, 402);
        CHECK.due(3, "16: early(3, 77) in the last period", () -> house.early(3, 77));
        row(house, 3, 803, 80, 883, 803, 0, 10000, 402);
        CHECK.range("16: early(0, 1)", () -> house.early(0, 1));
        CHECK.range("16: early(4, 1)", () -> house.early(4, 1));
        CHECK.range("16: money -1", () -> house.early(1, -1));
        CHECK.range("16: money too great", () -> house.early(1, BILLION + 1));
        house.lend(1000, 10000, 3);
        row(house, 1, 1000, 100, 402, 302, 698, 10000, 402);
    }

    private static void endsAtOnce() {
        AnnuityHouse house = new AnnuityHouse();
        house.lend(1000, 0, 4);
        house.early(1, BILLION);
        CHECK.due(1, "17: rows()", () -> house.rows());
        CHECK.element("18: behind the end", () -> house.rowOf(2, 0));
        CHECK.due(1, "15: a change behind the end", () -> house.change(3, 20000));
        CHECK.due(true, "14: a holiday behind the end", () -> house.holiday(2));
        CHECK.due(1000L, "19: paid", () -> house.total(2));
        CHECK.due(4, "16: all of it counts again", () -> house.early(1, 0));
        row(house, 2, 750, 0, 0, 0, 750, 0, 250);
        row(house, 3, 750, 150, 491, 341, 409, 20000, 491);
        house.setMode(AnnuityHouse.EXACT);
        house.lend(100, 0, 4);
        house.early(1, BILLION);
        CHECK.due(1, "15: by EXACT, behind the end nothing is rounded", () -> house.change(3, 19999));
    }

    private static void roundsByTheWayOfThen() {
        AnnuityHouse house = new AnnuityHouse();
        house.lend(1001, 0, 2);
        row(house, 1, 1001, 0, 500, 500, 501, 0, 500);
        house.setMode(AnnuityHouse.UP);
        row(house, 1, 1001, 0, 500, 500, 501, 0, 500);
        CHECK.due(2, "16: works the table out anew", () -> house.early(2, 0));
        row(house, 1, 1001, 0, 501, 501, 500, 0, 501);
        house.setMode(AnnuityHouse.DOWN);
        CHECK.range("14: a refused call does not", () -> house.holiday(2));
        row(house, 1, 1001, 0, 501, 501, 500, 0, 501);
        house.holiday(1);
        row(house, 1, 1001, 0, 0, 0, 1001, 0, 500);
        // Interest is rounded by the way as well: 0.1 of 1005.
        house.lend(1005, 10000, 1);
        row(house, 1, 1005, 100, 1105, 1005, 0, 10000, 1105);
        house.setMode(AnnuityHouse.HALF_UP);
        house.lend(1005, 10000, 1);
        row(house, 1, 1005, 101, 1106, 1005, 0, 10000, 1106);
    }

    private static void refusesByExact() {
        AnnuityHouse house = new AnnuityHouse();
        house.setMode(AnnuityHouse.EXACT);
        CHECK.state("13: an instalment to round", () -> house.lend(1000, 0, 3));
        CHECK.state("13: refused, there is no loan", () -> house.rows());
        CHECK.due(110L, "13: lend(100, 10000, 1)", () -> house.lend(100, 10000, 1));
        CHECK.due(121L, "13: lend(210, 10000, 2)", () -> house.lend(210, 10000, 2));
        row(house, 1, 210, 21, 121, 100, 110, 10000, 121);
        row(house, 2, 110, 11, 121, 110, 0, 10000, 121);
        CHECK.state("13: an interest to round", () -> house.lend(105, 10000, 2));
        CHECK.state("14: a holiday's interest", () -> house.holiday(1));
        CHECK.state("15: an instalment", () -> house.change(2, 10001));
        CHECK.state("16: an interest", () -> house.early(1, 1));
        CHECK.range("16: out of range goes ahead", () -> house.early(3, 1));
        CHECK.range("15: out of range goes ahead", () -> house.change(2, -1));
        CHECK.range("13: out of range goes ahead", () -> house.lend(1000, 0, 61));
        CHECK.due(2, "17: refused, the table is as before", () -> house.rows());
        row(house, 1, 210, 21, 121, 100, 110, 10000, 121);
        house.setMode(AnnuityHouse.HALF_EVEN);
        CHECK.due(2, "16: refused, nothing was told", () -> house.early(2, 0));
        row(house, 1, 210, 21, 121, 100, 110, 10000, 121);
        row(house, 2, 110, 11, 121, 110, 0, 10000, 121);
        CHECK.due(true, "14: refused, it was no holiday", () -> house.holiday(1));
        house.setMode(AnnuityHouse.EXACT);
        CHECK.state("16: the table as a whole is worked out", () -> house.early(2, 1));
        CHECK.due(false, "14: the holiday that could not be exact ends", () -> house.holiday(1));
    }

    private static void readsRows() {
        AnnuityHouse house = new AnnuityHouse();
        house.lend(1000, 0, 4);
        CHECK.range("18: what -1", () -> house.rowOf(1, -1));
        CHECK.range("18: what 7", () -> house.rowOf(1, 7));
        CHECK.range("18: what goes ahead of the row", () -> house.rowOf(5, 7));
        for (int wrong : new int[] {0, -1, 5, 61, 1000, Integer.MIN_VALUE, Integer.MAX_VALUE}) {
            CHECK.element("18: rowOf(" + wrong + ", 0)", () -> house.rowOf(wrong, 0));
        }
        CHECK.range("19: total(0)", () -> house.total(0));
        CHECK.range("19: total(4)", () -> house.total(4));
        CHECK.due(0L, "19: total(1)", () -> house.total(1));
    }

    private static void needsLoan() {
        AnnuityHouse house = new AnnuityHouse();
        CHECK.state("14: no loan goes ahead", () -> house.holiday(-1));
        CHECK.state("15: no loan goes ahead", () -> house.change(1, -1));
        CHECK.state("16: no loan goes ahead", () -> house.early(0, -1));
        CHECK.state("17: no loan", () -> house.rows());
        CHECK.state("18: no loan goes ahead", () -> house.rowOf(0, 9));
        CHECK.state("19: no loan goes ahead", () -> house.total(9));
        CHECK.range("13: a refused loan", () -> house.lend(0, 0, 1));
        CHECK.state("17: is none", () -> house.rows());
        CHECK.due(0.0f, "38: no loan", () -> house.interestShare());
    }

    private static void shares() {
        AnnuityHouse house = new AnnuityHouse();
        house.lend(1000, 0, 4);
        CHECK.due(0.0f, "38: no interest", () -> house.interestShare());
        house.lend(1000, 10000, 3);
        CHECK.due(207.0f / 1207.0f, "38: interestShare()", () -> house.interestShare());
        house.lend(BILLION, 20000, 60);
        house.setMode(AnnuityHouse.UP);
        for (int period = 1; period < 60; period++) {
            house.holiday(period);
        }
        long interests = house.total(1);
        CHECK.due((float) interests / (float) (interests + BILLION), "38: great sums", () -> house.interestShare());
        CHECK.due(interests + BILLION, "19: great sums", () -> house.total(2));
    }
}
