/** Promises 20 to 28: bonds and lives. */
public final class BondAndLivesTest {
    private static final Check CHECK = new Check();
    private static final long BILLION = 1000000000L;

    public static void main(String[] args) {
        prices();
        bondYields();
        accrues();
        addsAges();
        livesAndDeaths();
        forgetsAges();
        livesInRange();
        premiums();
        reserves();
        reservesInRange();
        CHECK.end();
    }

    private static void prices() {
        AnnuityHouse house = new AnnuityHouse();
        CHECK.due(100L, "20: at its own rate", () -> house.price(10, 100, 2, 10000));
        CHECK.due(130L, "20: at no rate", () -> house.price(10, 100, 3, 0));
        CHECK.due(83L, "20: 100 / 1.2", () -> house.price(0, 100, 1, 20000));
        CHECK.due(0L, "20: nothing", () -> house.price(0, 0, 40, 20000));
        CHECK.due(41 * BILLION, "20: the greatest", () -> house.price(BILLION, BILLION, 40, 0));
        CHECK.due(4997278489L, "20: 40 coupons at 0.2 and a face, 4997278488.65", () -> house.price(BILLION, BILLION, 40, 20000));
        house.setMode(AnnuityHouse.UP);
        CHECK.due(84L, "20: rounded UP", () -> house.price(0, 100, 1, 20000));
        CHECK.due(1L, "20: a little, UP", () -> house.price(0, 1, 40, 20000));
        house.setMode(AnnuityHouse.EXACT);
        CHECK.due(100L, "20: by EXACT", () -> house.price(10, 100, 2, 10000));
        CHECK.state("20: to be rounded, by EXACT", () -> house.price(0, 100, 1, 20000));
        CHECK.range("20: coupon -1", () -> house.price(-1, 0, 1, 0));
        CHECK.range("20: coupon too great", () -> house.price(BILLION + 1, 0, 1, 0));
        CHECK.range("20: face -1", () -> house.price(0, -1, 1, 0));
        CHECK.range("20: face too great", () -> house.price(0, BILLION + 1, 1, 0));
        CHECK.range("20: periods 0", () -> house.price(0, 0, 0, 0));
        CHECK.range("20: periods 41", () -> house.price(0, 0, 41, 0));
        CHECK.range("20: points -1", () -> house.price(0, 0, 1, -1));
        CHECK.range("20: points 20001", () -> house.price(0, 0, 1, 20001));
        CHECK.range("20: out of range goes ahead of EXACT", () -> house.price(0, 100, 41, 20000));
    }

    private static void bondYields() {
        AnnuityHouse house = new AnnuityHouse();
        CHECK.due(10000, "21: exactly its rate", () -> house.bondYield(10, 100, 2, 100));
        CHECK.due(0, "21: all it pays", () -> house.bondYield(10, 100, 2, 120));
        CHECK.due(1, "21: a cent less", () -> house.bondYield(0, 100001, 1, 100000));
        CHECK.due(20000, "21: exactly 20000", () -> house.bondYield(0, 120, 1, 100));
        CHECK.due(AnnuityHouse.NONE, "21: none", () -> house.bondYield(0, 121, 1, 100));
        CHECK.due(AnnuityHouse.NONE, "21: no money", () -> house.bondYield(0, 1, 40, 0));
        CHECK.due(0, "21: nothing for nothing", () -> house.bondYield(0, 0, 1, 0));
        CHECK.due(0, "21: the greatest money", () -> house.bondYield(BILLION, BILLION, 40, 1000000000000L));
        CHECK.due(5001, "21: exact, not rounded", () -> house.bondYield(0, 1050001, 1, 1000000));
        house.setMode(AnnuityHouse.EXACT);
        CHECK.due(5001, "21: by EXACT as well", () -> house.bondYield(0, 1050001, 1, 1000000));
        CHECK.range("21: coupon -1", () -> house.bondYield(-1, 0, 1, 0));
        CHECK.range("21: coupon too great", () -> house.bondYield(BILLION + 1, 0, 1, 0));
        CHECK.range("21: face -1", () -> house.bondYield(0, -1, 1, 0));
        CHECK.range("21: face too great", () -> house.bondYield(0, BILLION + 1, 1, 0));
        CHECK.range("21: periods 0", () -> house.bondYield(0, 0, 0, 0));
        CHECK.range("21: periods 41", () -> house.bondYield(0, 0, 41, 0));
        CHECK.range("21: money -1", () -> house.bondYield(0, 0, 1, -1));
        CHECK.range("21: money too great", () -> house.bondYield(0, 0, 1, 1000000000001L));
    }

    private static void accrues() {
        AnnuityHouse house = new AnnuityHouse();
        CHECK.due(50L, "22: half", () -> house.accrued(100, 15, 30));
        CHECK.due(0L, "22: no days", () -> house.accrued(100, 0, 366));
        CHECK.due(7L, "22: one day of one", () -> house.accrued(7, 1, 1));
        CHECK.due(0L, "22: no coupon", () -> house.accrued(0, 1, 3));
        CHECK.due(100L, "22: all days", () -> house.accrued(100, 366, 366));
        CHECK.due(BILLION, "22: the greatest", () -> house.accrued(BILLION, 366, 366));
        CHECK.due(2L, "22: 2.5 to the even one", () -> house.accrued(5, 1, 2));
        CHECK.due(33L, "22: 33.3", () -> house.accrued(100, 1, 3));
        house.setMode(AnnuityHouse.CEILING);
        CHECK.due(34L, "22: by CEILING", () -> house.accrued(100, 1, 3));
        house.setMode(AnnuityHouse.EXACT);
        CHECK.state("22: by EXACT", () -> house.accrued(100, 1, 3));
        CHECK.due(25L, "22: a whole number by EXACT", () -> house.accrued(100, 1, 4));
        CHECK.range("22: coupon -1", () -> house.accrued(-1, 1, 3));
        CHECK.range("22: coupon too great", () -> house.accrued(BILLION + 1, 1, 3));
        CHECK.range("22: days -1", () -> house.accrued(1, -1, 3));
        CHECK.range("22: days above length", () -> house.accrued(100, 4, 3));
        CHECK.range("22: length 0", () -> house.accrued(1, 0, 0));
        CHECK.range("22: length 367", () -> house.accrued(1, 1, 367));
    }

    private static void addsAges() {
        AnnuityHouse house = new AnnuityHouse();
        CHECK.range("23: left 0", () -> house.live(0));
        CHECK.range("23: left 1000001", () -> house.live(1000001));
        CHECK.range("23: left below 0", () -> house.live(-5));
        CHECK.due(0, "24: refused, no age", () -> house.clearLives());
        CHECK.due(1, "23: live(1000000)", () -> house.live(1000000));
        CHECK.due(2, "23: as many", () -> house.live(1000000));
        CHECK.due(3, "23: fewer", () -> house.live(10));
        CHECK.range("23: more than ahead", () -> house.live(11));
        for (int age = 3; age < 30; age++) {
            int due = age + 1;
            CHECK.due(due, "23: live(7)", () -> house.live(7));
        }
        CHECK.state("23: 30 ages", () -> house.live(7));
        CHECK.range("23: out of range goes ahead of 30 ages", () -> house.live(8));
        CHECK.due(30, "24: clearLives()", () -> house.clearLives());
        CHECK.due(0, "24: clearLives() again", () -> house.clearLives());
        CHECK.element("25: no age is left", () -> house.lifeWorth(0, 1, 0));
        CHECK.due(1, "23: the first age may have more again", () -> house.live(1000000));
    }

    private static AnnuityHouse houseOf(int... left) {
        AnnuityHouse house = new AnnuityHouse();
        for (int many : left) {
            house.live(many);
        }
        return house;
    }

    private static void livesAndDeaths() {
        AnnuityHouse house = houseOf(100, 60, 20);
        // 1000 * (1 + 0.6 / 1.1 + 0.2 / 1.21) is 1710.74...
        CHECK.due(1711L, "25: lifeWorth(0, 1000, 10000)", () -> house.lifeWorth(0, 1000, 10000));
        CHECK.due(1800L, "25: at no rate", () -> house.lifeWorth(0, 1000, 0));
        CHECK.due(1303L, "25: from the age 1, 1303.03", () -> house.lifeWorth(1, 1000, 10000));
        CHECK.due(1000L, "25: at the last age", () -> house.lifeWorth(2, 1000, 20000));
        CHECK.due(0L, "25: no money", () -> house.lifeWorth(0, 0, 20000));
        // 1000 * (0.4 / 1.1 + 0.4 / 1.21 + 0.2 / 1.331) is 844.47...
        CHECK.due(844L, "26: deathWorth(0, 1000, 10000)", () -> house.deathWorth(0, 1000, 10000));
        CHECK.due(1000L, "26: at no rate", () -> house.deathWorth(0, 1000, 0));
        CHECK.due(882L, "26: from the age 1, 881.54", () -> house.deathWorth(1, 1000, 10000));
        CHECK.due(833L, "26: at the last age", () -> house.deathWorth(2, 1000, 20000));
        house.setMode(AnnuityHouse.UP);
        CHECK.due(845L, "26: rounded UP", () -> house.deathWorth(0, 1000, 10000));
        house.setMode(AnnuityHouse.EXACT);
        CHECK.state("25: by EXACT", () -> house.lifeWorth(0, 1000, 10000));
        CHECK.state("26: by EXACT", () -> house.deathWorth(0, 1000, 10000));
        CHECK.due(1800L, "25: a whole number by EXACT", () -> house.lifeWorth(0, 1000, 0));
        CHECK.due(100L, "26: a whole number by EXACT", () -> house.deathWorth(2, 110, 10000));
        CHECK.due(0L, "26: no money by EXACT", () -> house.deathWorth(0, 0, 19999));
    }

    private static void forgetsAges() {
        AnnuityHouse house = houseOf(100, 60, 20);
        house.clearLives();
        house.live(50);
        CHECK.due(1000L, "24: the ages before do not count", () -> house.lifeWorth(0, 1000, 0));
        CHECK.due(1000L, "24: nobody is left behind the last age", () -> house.deathWorth(0, 1000, 0));
        for (int age = 1; age < 30; age++) {
            house.live(50);
        }
        CHECK.due(1000L, "26: 30 ages", () -> house.deathWorth(0, 1000, 0));
        CHECK.due(30000L, "25: 30 ages", () -> house.lifeWorth(0, 1000, 0));
        CHECK.due(833L, "26: the last of 30 ages", () -> house.deathWorth(29, 1000, 20000));
        CHECK.due(967L, "28: 30 ages", () -> house.reserve(0, 29, 1000, 0, true));
    }

    private static void livesInRange() {
        AnnuityHouse house = houseOf(100, 60, 20);
        for (int wrong : new int[] {-1, 3, Integer.MIN_VALUE, Integer.MAX_VALUE}) {
            CHECK.element("25: age " + wrong, () -> house.lifeWorth(wrong, 1, 0));
            CHECK.element("26: age " + wrong, () -> house.deathWorth(wrong, 1, 0));
            CHECK.element("27: age " + wrong, () -> house.premium(wrong, 1, 0));
            CHECK.element("28: age " + wrong, () -> house.reserve(wrong, 0, 1, 0, true));
        }
        for (long wrong : new long[] {-1, BILLION + 1}) {
            CHECK.range("25: money " + wrong, () -> house.lifeWorth(3, wrong, 0));
            CHECK.range("26: money " + wrong, () -> house.deathWorth(3, wrong, 0));
            CHECK.range("27: money " + wrong, () -> house.premium(3, wrong, 0));
            CHECK.range("28: money " + wrong, () -> house.reserve(3, 0, wrong, 0, true));
        }
        for (int wrong : new int[] {-1, 20001}) {
            CHECK.range("25: points " + wrong, () -> house.lifeWorth(3, 1, wrong));
            CHECK.range("26: points " + wrong, () -> house.deathWorth(3, 1, wrong));
            CHECK.range("27: points " + wrong, () -> house.premium(3, 1, wrong));
            CHECK.range("28: points " + wrong, () -> house.reserve(3, 0, 1, wrong, false));
        }
        house.setMode(AnnuityHouse.EXACT);
        CHECK.element("25: the age goes ahead of EXACT", () -> house.lifeWorth(3, 1000, 10000));
    }

    private static void premiums() {
        AnnuityHouse house = houseOf(100, 60, 20);
        // 844.477... / 1.710743... is 493.63..., not 844 / 1.711.
        CHECK.due(494L, "27: premium(0, 1000, 10000)", () -> house.premium(0, 1000, 10000));
        CHECK.due(556L, "27: at no rate, 1000 / 1.8", () -> house.premium(0, 1000, 0));
        CHECK.due(833L, "27: at the last age", () -> house.premium(2, 1000, 20000));
        house.setMode(AnnuityHouse.DOWN);
        CHECK.due(493L, "27: rounded DOWN", () -> house.premium(0, 1000, 10000));
        house.setMode(AnnuityHouse.EXACT);
        CHECK.state("27: by EXACT", () -> house.premium(0, 1000, 10000));
        CHECK.due(500L, "27: a whole number by EXACT", () -> house.premium(0, 900, 0));
    }

    private static void reserves() {
        AnnuityHouse house = houseOf(100, 60, 20);
        for (boolean isBack : new boolean[] {false, true}) {
            house.setMode(AnnuityHouse.HALF_EVEN);
            CHECK.due(0L, "28: after no years", () -> house.reserve(0, 0, 1000, 10000, isBack));
            // 1000 * (1 - 1.303030... / 1.710743...) is 238.32...
            CHECK.due(238L, "28: after one year", () -> house.reserve(0, 1, 1000, 10000, isBack));
            // 1000 * (1 - 1 / 1.710743...) is 415.45...
            CHECK.due(415L, "28: after two years", () -> house.reserve(0, 2, 1000, 10000, isBack));
            CHECK.due(444L, "28: at no rate, 444.4", () -> house.reserve(0, 2, 1000, 0, isBack));
            CHECK.due(0L, "28: no money", () -> house.reserve(0, 1, 0, 10000, isBack));
            house.setMode(AnnuityHouse.UP);
            CHECK.due(239L, "28: rounded UP", () -> house.reserve(0, 1, 1000, 10000, isBack));
            house.setMode(AnnuityHouse.EXACT);
            CHECK.state("28: by EXACT", () -> house.reserve(0, 1, 1000, 10000, isBack));
            CHECK.due(400L, "28: a whole number by EXACT", () -> house.reserve(0, 2, 900, 0, isBack));
        }
        // Who outlives many deaths pays long: below 0.
        AnnuityHouse below = houseOf(4, 1, 1, 1);
        for (boolean isBack : new boolean[] {false, true}) {
            // 100 * (1 - 3 / 1.75) is -71.4...
            below.setMode(AnnuityHouse.HALF_EVEN);
            CHECK.due(-71L, "28: below 0", () -> below.reserve(0, 1, 100, 0, isBack));
            below.setMode(AnnuityHouse.FLOOR);
            CHECK.due(-72L, "28: below 0 by FLOOR", () -> below.reserve(0, 1, 100, 0, isBack));
            below.setMode(AnnuityHouse.CEILING);
            CHECK.due(-71L, "28: below 0 by CEILING", () -> below.reserve(0, 1, 100, 0, isBack));
        }
    }

    private static void reservesInRange() {
        AnnuityHouse house = houseOf(100, 60, 20);
        CHECK.range("28: years -1", () -> house.reserve(0, -1, 1, 0, true));
        CHECK.range("28: years -1 goes ahead of the age", () -> house.reserve(9, -1, 1, 0, true));
        CHECK.element("28: the age then", () -> house.reserve(0, 3, 1, 0, true));
        CHECK.element("28: the age then", () -> house.reserve(2, 1, 1, 0, false));
        CHECK.element("28: years Integer.MAX", () -> house.reserve(2, Integer.MAX_VALUE, 1, 0, false));
        CHECK.element("28: no age at first", () -> house.reserve(-1, 1, 1, 0, false));
        house.setMode(AnnuityHouse.EXACT);
        CHECK.element("28: the age goes ahead of EXACT", () -> house.reserve(1, 2, 1000, 10000, true));
    }
}
