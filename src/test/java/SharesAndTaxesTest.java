/** Promises 29 to 36: parts of a sum, taxes by steps, and the checks of errors. */
public final class SharesAndTaxesTest {
    private static final Check CHECK = new Check();
    private static final long BILLION = 1000000000L;
    private static final long TRILLION = 1000000000000L;

    public static void main(String[] args) {
        weighs();
        parts();
        partsInRange();
        addsSteps();
        taxes();
        untaxes();
        findsNoErrors();
        CHECK.end();
    }

    private static void weighs() {
        AnnuityHouse house = new AnnuityHouse();
        CHECK.range("29: weight -1", () -> house.weigh(-1));
        CHECK.range("29: weight 1000001", () -> house.weigh(1000001));
        CHECK.due(0, "30: refused, nobody is there", () -> house.clearWeights());
        for (int i = 1; i <= 12; i++) {
            int due = i;
            CHECK.due(due, "29: weigh", () -> house.weigh(due % 2 * 1000000));
        }
        CHECK.state("29: there are 12", () -> house.weigh(1));
        CHECK.range("29: out of range goes ahead of 12", () -> house.weigh(-1));
        CHECK.due(12, "30: clearWeights()", () -> house.clearWeights());
        CHECK.due(0, "30: clearWeights() again", () -> house.clearWeights());
        CHECK.element("30: nobody is left", () -> house.part(1, 0));
        CHECK.due(1, "29: again", () -> house.weigh(5));
    }

    private static void parts(long money, int[] weights, long... due) {
        AnnuityHouse house = new AnnuityHouse();
        for (int weight : weights) {
            house.weigh(weight);
        }
        for (int i = 0; i < due.length; i++) {
            int which = i;
            CHECK.due(due[i], "31: part(" + money + ", " + i + ")", () -> house.part(money, which));
        }
        house.setMode(AnnuityHouse.EXACT);
        CHECK.due(due[0], "31: the way to round does not matter", () -> house.part(money, 0));
        CHECK.due(0, "36: errors(0)", () -> house.errors(0));
    }

    private static void parts() {
        parts(100, new int[] {1, 1, 1}, 34, 33, 33);
        parts(101, new int[] {1, 1, 1}, 34, 34, 33);
        parts(102, new int[] {1, 1, 1}, 34, 34, 34);
        // 2.5, 5, 2.5: of those who lose as much the first one.
        parts(10, new int[] {1, 2, 1}, 3, 5, 2);
        // 0.7, 0.2, 0.1, and 1.4, 0.4, 0.2: who lost most.
        parts(1, new int[] {7, 2, 1}, 1, 0, 0);
        parts(2, new int[] {7, 2, 1}, 2, 0, 0);
        // 1.1, 3.3, 6.6: a later one lost most.
        parts(11, new int[] {1, 3, 6}, 1, 3, 7);
        parts(1, new int[] {1, 3, 6}, 0, 0, 1);
        // Nobody who has no weight gets a cent.
        parts(5, new int[] {0, 1, 0, 1}, 0, 3, 0, 2);
        parts(0, new int[] {1, 2}, 0, 0);
        parts(5, new int[] {1}, 5);
        parts(5, new int[] {0, 1, 0}, 0, 5, 0);
        parts(TRILLION, new int[] {1000000}, TRILLION);
        parts(TRILLION, new int[] {1000000, 1000000, 1000000}, 333333333334L, 333333333333L, 333333333333L);
        parts(11, new int[] {1, 1, 1, 1, 1, 1, 1, 1, 1, 1, 1, 1}, 1, 1, 1, 1, 1, 1, 1, 1, 1, 1, 1, 0);
    }

    private static void partsInRange() {
        AnnuityHouse house = new AnnuityHouse();
        CHECK.element("31: nobody", () -> house.part(1, 0));
        CHECK.range("31: money goes ahead of nobody", () -> house.part(-1, 0));
        house.weigh(0);
        house.weigh(0);
        CHECK.element("31: all weights are 0", () -> house.part(1, 0));
        CHECK.element("31: all weights are 0, no money", () -> house.part(0, 1));
        house.weigh(1);
        CHECK.due(1L, "31: part(1, 2)", () -> house.part(1, 2));
        for (int wrong : new int[] {-1, 3, Integer.MIN_VALUE, Integer.MAX_VALUE}) {
            CHECK.element("31: which " + wrong, () -> house.part(1, wrong));
        }
        CHECK.range("31: money too great", () -> house.part(TRILLION + 1, 0));
        CHECK.range("31: money -1", () -> house.part(-1, 9));
    }

    private static void addsSteps() {
        AnnuityHouse house = new AnnuityHouse();
        CHECK.range("32: from -1", () -> house.step(-1, 0));
        CHECK.range("32: from too great", () -> house.step(BILLION + 1, 0));
        CHECK.range("32: permille -1", () -> house.step(0, -1));
        CHECK.range("32: permille 1001", () -> house.step(0, 1001));
        CHECK.due(0, "33: refused, no step", () -> house.clearSteps());
        CHECK.due(1, "32: step(0, 0)", () -> house.step(0, 0));
        CHECK.range("32: not more than ahead", () -> house.step(0, 5));
        CHECK.due(2, "32: step(1, 1000)", () -> house.step(1, 1000));
        for (int i = 3; i <= 8; i++) {
            int due = i;
            CHECK.due(due, "32: step", () -> house.step(due * 10, 5));
        }
        CHECK.due(30L, "34: 8 steps, 29 of 1000 and 170 of 5", () -> house.tax(200));
        CHECK.state("32: there are 8", () -> house.step(BILLION, 5));
        CHECK.range("32: out of range goes ahead of 8", () -> house.step(80, 5));
        CHECK.range("32: out of range goes ahead of 8", () -> house.step(81, 1001));
        CHECK.due(8, "33: clearSteps()", () -> house.clearSteps());
        CHECK.due(0, "33: clearSteps() again", () -> house.clearSteps());
        CHECK.due(0L, "34: no step, no tax", () -> house.tax(TRILLION));
        CHECK.due(1, "32: a first step may begin sooner again", () -> house.step(0, 0));
        CHECK.due(0L, "34: the steps before do not count", () -> house.tax(TRILLION));
        CHECK.due(2, "32: the greatest", () -> house.step(BILLION, 1000));
        CHECK.range("32: nothing behind the greatest", () -> house.step(BILLION, 0));
    }

    private static void taxes() {
        AnnuityHouse house = new AnnuityHouse();
        CHECK.due(0L, "34: without steps", () -> house.tax(5));
        house.step(100, 100);
        house.step(200, 0);
        house.step(300, 505);
        CHECK.due(0L, "34: tax(0)", () -> house.tax(0));
        CHECK.due(0L, "34: tax(100)", () -> house.tax(100));
        CHECK.due(5L, "34: tax(150)", () -> house.tax(150));
        CHECK.due(10L, "34: tax(200)", () -> house.tax(200));
        CHECK.due(10L, "34: tax(300)", () -> house.tax(300));
        // 10 and 50.5, added up and then rounded.
        CHECK.due(60L, "34: tax(400)", () -> house.tax(400));
        CHECK.due(504999999858L, "34: tax(10^12), 504999999858.5", () -> house.tax(TRILLION));
        house.setMode(AnnuityHouse.UP);
        CHECK.due(61L, "34: tax(400) by UP", () -> house.tax(400));
        house.setMode(AnnuityHouse.EXACT);
        CHECK.state("34: by EXACT", () -> house.tax(400));
        CHECK.due(111L, "34: a whole number by EXACT", () -> house.tax(500));
        CHECK.range("34: money -1", () -> house.tax(-1));
        CHECK.range("34: money too great", () -> house.tax(TRILLION + 1));
        AnnuityHouse halves = new AnnuityHouse();
        halves.setMode(AnnuityHouse.HALF_UP);
        halves.step(0, 500);
        halves.step(1, 500);
        CHECK.due(1L, "34: two halves are one", () -> halves.tax(2));
    }

    private static void untaxes() {
        AnnuityHouse house = new AnnuityHouse();
        CHECK.due(0L, "35: untaxed(0)", () -> house.untaxed(0));
        CHECK.due(BILLION, "35: without steps", () -> house.untaxed(BILLION));
        house.step(100, 500);
        CHECK.due(100L, "35: untaxed(100)", () -> house.untaxed(100));
        CHECK.due(102L, "35: untaxed(101)", () -> house.untaxed(101));
        CHECK.due(2 * BILLION - 100, "35: untaxed(10^9)", () -> house.untaxed(BILLION));
        house.step(300, 1000);
        CHECK.due(300L, "35: untaxed(200)", () -> house.untaxed(200));
        CHECK.due((long) AnnuityHouse.NONE, "35: all of it is taken", () -> house.untaxed(201));
        CHECK.range("35: money -1", () -> house.untaxed(-1));
        CHECK.range("35: money too great", () -> house.untaxed(BILLION + 1));
        AnnuityHouse fine = new AnnuityHouse();
        fine.step(0, 999);
        CHECK.due(TRILLION, "35: the greatest", () -> fine.untaxed(BILLION));
        CHECK.due(1000L, "35: a cent of a thousand", () -> fine.untaxed(1));
        fine.clearSteps();
        fine.step(0, 0);
        fine.step(1, 999);
        CHECK.due(TRILLION - 999, "35: nearly the greatest", () -> fine.untaxed(BILLION));
        fine.clearSteps();
        fine.step(0, 1000);
        fine.step(1, 999);
        CHECK.due((long) AnnuityHouse.NONE, "35: just too great", () -> fine.untaxed(BILLION));
        AnnuityHouse exact = new AnnuityHouse();
        exact.step(0, 1);
        exact.setMode(AnnuityHouse.EXACT);
        // 10 cents less their tax, 9.99, are less than 10, however they are rounded.
        CHECK.due(11L, "35: the tax is exact", () -> exact.untaxed(10));
    }

    private static void findsNoErrors() {
        AnnuityHouse house = new AnnuityHouse();
        CHECK.due(0, "36: a new object", () -> house.errors(20000));
        CHECK.range("36: points -1", () -> house.errors(-1));
        CHECK.range("36: points 20001", () -> house.errors(20001));
        house.payMany(0, 41, 1000, -37);
        house.lend(12345, 777, 33);
        house.holiday(3);
        house.early(5, 100);
        house.live(1000);
        house.live(999);
        house.live(3);
        house.weigh(0);
        CHECK.due(0, "36: all weights are 0", () -> house.errors(0));
        house.weigh(7);
        house.weigh(11);
        for (int mode = AnnuityHouse.UP; mode <= AnnuityHouse.EXACT; mode++) {
            house.setMode(mode);
            for (int points : new int[] {0, 1, 777, 10000, 19999, 20000}) {
                CHECK.due(0, "36: errors(" + points + ")", () -> house.errors(points));
            }
        }
    }
}
