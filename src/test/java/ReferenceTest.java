/** Many long runs of calls, right and wrong ones, answered by the house and by the reference alike. */
public final class ReferenceTest {
    private static final int RUNS = 75;
    /** A house is promised so many calls and no more. */
    private static final int MOST_CALLS = 512;
    /** Behind these, there are calls left to compare the states. */
    private static final int CALLS_OF_RUN = 395;
    private static final int SLOW_RUNS = 6;

    private final Check check = new Check();
    private long seed;
    private AnnuityHouse house;
    private Reference reference;
    private int calls = 0;

    private ReferenceTest(long seed) {
        this.seed = seed;
    }

    public static void main(String[] args) {
        ReferenceTest test = new ReferenceTest(20261119);
        for (int run = 0; run < RUNS; run++) {
            test.run(run % 3);
        }
        for (int run = 0; run < SLOW_RUNS; run++) {
            test.tryAllRates();
        }
        for (int mode = AnnuityHouse.UP; mode <= AnnuityHouse.EXACT; mode++) {
            test.greatest(mode);
        }
        test.check.end();
    }

    private long any(long least, long greatest) {
        seed = seed * 6364136223846793005L + 1442695040888963407L;
        return greatest <= least ? least : least + (seed >>> 20) % (greatest - least + 1);
    }

    /** Mostly within the bounds, often at them or near them, sometimes beyond. */
    private long value(long least, long greatest) {
        switch ((int) any(0, 15)) {
            case 0:
                return least;
            case 1:
                return greatest;
            case 2:
                return any(0, 3) == 0 ? least - 1 : any(least, Math.min(greatest, least + 3));
            case 3:
                return any(0, 3) == 0 ? greatest + 1 : any(Math.max(least, greatest - 3), greatest);
            case 4:
            case 5:
            case 6:
                return any(least, Math.min(greatest, Math.max(least, 100)));
            default:
                return any(least, greatest);
        }
    }

    private int number(int least, int greatest) {
        if (any(0, 400) == 0) {
            return any(0, 1) == 0 ? Integer.MIN_VALUE : Integer.MAX_VALUE;
        }
        return (int) value(least, greatest);
    }

    private int rate() {
        int[] round = {0, 1000, 5000, 10000, 20000, 12500, 300};
        return any(0, 2) == 0 ? round[(int) any(0, round.length - 1)] : number(0, 20000);
    }

    private long cents() {
        return any(0, 2) == 0 ? any(1, 50) * 10000 : value(0, 1000000000);
    }

    private void begin() {
        house = new AnnuityHouse();
        reference = new Reference();
        calls = 0;
    }

    private void both(String call, Check.Call mine, Check.Call due) {
        calls++;
        if (calls > MOST_CALLS) {
            throw new IllegalStateException("too many calls of one house: " + call);
        }
        check.due(Check.outcome(due), call, mine);
    }

    /** Kind 0 calls all alike, kind 1 rows and loans, kind 2 the others. */
    private void run(int kind) {
        begin();
        while (calls < CALLS_OF_RUN) {
            int which = (int) (kind == 0 ? any(0, 2) : kind);
            if (any(0, 25) == 0) {
                settings();
            } else if (which == 0) {
                rows();
            } else if (which == 1) {
                loans();
            } else {
                others();
            }
        }
        compareStates();
    }

    private void compareStates() {
        both("mode()", () -> house.mode(), () -> reference.mode);
        for (int p = 0; p <= 40; p++) {
            int period = p;
            both("amount(" + p + ")", () -> house.amount(period), () -> reference.amount(period));
        }
        int shift = (int) any(0, 6);
        for (int p = 0; p <= 61; p++) {
            int period = p;
            int what = (p + shift) % 7;
            both("rowOf(" + p + ", " + what + ")", () -> house.rowOf(period, what), () -> reference.rowOf(period, what));
        }
        for (int w = 1; w <= 3; w++) {
            int what = w;
            both("total(" + w + ")", () -> house.total(what), () -> reference.total(what));
        }
        both("clearLives()", () -> house.clearLives(), () -> reference.clearLives());
        both("clearWeights()", () -> house.clearWeights(), () -> reference.clearWeights());
        both("clearSteps()", () -> house.clearSteps(), () -> reference.clearSteps());
    }

    private void settings() {
        if (any(0, 2) == 0) {
            int points = rate();
            both("errors(" + points + ")", () -> house.errors(points), () -> reference.errors(points));
            return;
        }
        int mode = number(0, 7);
        both("setMode(" + mode + ")", () -> house.setMode(mode), () -> reference.setMode(mode));
        both("mode()", () -> house.mode(), () -> reference.mode);
    }

    private void rows() {
        int period = number(0, 40);
        int points = rate();
        switch ((int) any(0, 11)) {
            case 0:
            case 1:
                long amount = any(0, 1) == 0 ? value(-1000000000, 1000000000) : any(-50, 50) * 1000;
                both("pay(" + period + ", " + amount + ")", () -> house.pay(period, amount), () -> reference.pay(period, amount));
                break;
            case 2:
                int many = any(0, 2) == 0 ? number(1, 41) : number(1, 12);
                long first = value(-1000000000, 1000000000) / (any(0, 1) == 0 ? 1 : 1000);
                long step = value(-1000000, 1000000);
                both("payMany(" + period + ", " + many + ", " + first + ", " + step + ")",
                        () -> house.payMany(period, many, first, step), () -> reference.payMany(period, many, first, step));
                break;
            case 3:
                investment();
                break;
            case 4:
                both("amount(" + period + ")", () -> house.amount(period), () -> reference.amount(period));
                break;
            case 5:
            case 6:
                both("worth(" + period + ", " + points + ")", () -> house.worth(period, points), () -> reference.worth(period, points));
                break;
            case 7:
                both("signAt(" + points + ")", () -> house.signAt(points), () -> reference.signAt(points));
                break;
            case 8:
                both("changes()", () -> house.changes(), () -> reference.changes());
                both("meanAmount()", () -> house.meanAmount(), () -> reference.meanAmount());
                break;
            case 9:
                both("rowYield()", () -> house.rowYield(), () -> reference.rowYield(false));
                break;
            case 10:
                if (any(0, 3) == 0) {
                    both("clearRow()", () -> house.clearRow(), () -> reference.clearRow());
                }
                break;
            default:
                long over = value(-1000000000000L, 1000000000000L);
                long under = value(1, any(0, 1) == 0 ? 20 : 1000000000000L);
                int digits = number(0, 6);
                both("round(" + over + ", " + under + ", " + digits + ")",
                        () -> house.round(over, under, digits), () -> reference.round(over, under, digits));
                break;
        }
    }

    /** A row whose signs change just once. */
    private void investment() {
        int paid = (int) any(1, 20);
        long sign = any(0, 1) == 0 ? 1 : -1;
        long back = any(1, 200000);
        long step = any(0, 1000);
        int many = (int) any(1, 41 - paid);
        long money = back * many * any(1, 30) / any(1, 20) / paid + 1;
        both("clearRow()", () -> house.clearRow(), () -> reference.clearRow());
        both("payMany(0, " + paid + ")", () -> house.payMany(0, paid, -sign * money, 0), () -> reference.payMany(0, paid, -sign * money, 0));
        both("payMany(" + paid + ", " + many + ")",
                () -> house.payMany(paid, many, sign * back, sign * step), () -> reference.payMany(paid, many, sign * back, sign * step));
        both("rowYield()", () -> house.rowYield(), () -> reference.rowYield(false));
    }

    private void loans() {
        int last = Math.max(reference.periods, 2);
        int points = rate();
        switch ((int) any(0, 11)) {
            case 0:
                long money = cents();
                int many = any(0, 1) == 0 ? number(1, 60) : number(1, 8);
                both("lend(" + money + ", " + points + ", " + many + ")",
                        () -> house.lend(money, points, many), () -> reference.lend(money, points, many));
                break;
            case 1:
            case 2:
                int free = number(1, last - 1);
                both("holiday(" + free + ")", () -> house.holiday(free), () -> reference.holiday(free));
                break;
            case 3:
            case 4:
                int from = number(2, last);
                both("change(" + from + ", " + points + ")", () -> house.change(from, points), () -> reference.change(from, points));
                break;
            case 5:
            case 6:
                int when = number(1, last);
                long early = any(0, 1) == 0 ? value(0, 1000000000) : value(0, Math.max(1, reference.lent / last));
                both("early(" + when + ", " + early + ")", () -> house.early(when, early), () -> reference.early(when, early));
                break;
            case 7:
                int what = number(1, 3);
                both("total(" + what + ")", () -> house.total(what), () -> reference.total(what));
                both("interestShare()", () -> house.interestShare(), () -> reference.interestShare());
                break;
            default:
                int period = number(1, last);
                int column = number(0, 6);
                both("rows()", () -> house.rows(), () -> reference.rows());
                both("rowOf(" + period + ", " + column + ")", () -> house.rowOf(period, column), () -> reference.rowOf(period, column));
                break;
        }
    }

    private void others() {
        switch ((int) any(0, 3)) {
            case 0:
                bonds();
                break;
            case 1:
                ages();
                break;
            case 2:
                weights();
                break;
            default:
                taxes();
                break;
        }
    }

    private void bonds() {
        long coupon = cents();
        long face = cents();
        int periods = number(1, 40);
        int points = rate();
        if (any(0, 2) == 0) {
            int length = number(1, 366);
            int days = number(0, Math.max(1, length));
            both("accrued(" + coupon + ", " + days + ", " + length + ")",
                    () -> house.accrued(coupon, days, length), () -> reference.accrued(coupon, days, length));
            return;
        }
        both("price(" + coupon + ", " + face + ", " + periods + ", " + points + ")",
                () -> house.price(coupon, face, periods, points), () -> reference.price(coupon, face, periods, points));
        long money = any(0, 1) == 0 ? value(0, 1000000000000L) : coupon * periods / any(1, 9) + face;
        both("bondYield(" + coupon + ", " + face + ", " + periods + ", " + money + ")",
                () -> house.bondYield(coupon, face, periods, money), () -> reference.bondYield(coupon, face, periods, money, false));
    }

    private void ages() {
        int ages = reference.lives.size();
        int age = number(0, Math.max(1, ages - 1));
        int years = number(0, Math.max(1, ages - 1 - age));
        long money = cents();
        int points = rate();
        boolean isBack = any(0, 1) == 0;
        switch ((int) any(0, 7)) {
            case 0:
            case 1:
            case 2:
                int before = ages == 0 ? 1000000 : reference.lives.get(ages - 1);
                int left = any(0, 2) == 0 ? number(1, before) : (int) any(Math.max(1, before * 9L / 10), before);
                both("live(" + left + ")", () -> house.live(left), () -> reference.live(left));
                break;
            case 3:
                both("lifeWorth", () -> house.lifeWorth(age, money, points), () -> reference.lifeWorth(age, money, points));
                break;
            case 4:
                both("deathWorth", () -> house.deathWorth(age, money, points), () -> reference.deathWorth(age, money, points));
                break;
            case 5:
                both("premium", () -> house.premium(age, money, points), () -> reference.premium(age, money, points));
                break;
            case 6:
                both("reserve(" + age + ", " + years + ", " + money + ", " + points + ", " + isBack + ")",
                        () -> house.reserve(age, years, money, points, isBack), () -> reference.reserve(age, years, money, points, isBack));
                break;
            default:
                if (any(0, 6) == 0) {
                    both("clearLives()", () -> house.clearLives(), () -> reference.clearLives());
                }
                break;
        }
    }

    private void weights() {
        if (any(0, 20) == 0) {
            both("clearWeights()", () -> house.clearWeights(), () -> reference.clearWeights());
        }
        if (any(0, 4) == 0) {
            int weight = number(0, 1000000);
            both("weigh(" + weight + ")", () -> house.weigh(weight), () -> reference.weigh(weight));
        }
        long money = value(0, 1000000000000L);
        int which = number(0, Math.max(1, reference.weights.size() - 1));
        both("part(" + money + ", " + which + ")", () -> house.part(money, which), () -> reference.part(money, which));
    }

    private void taxes() {
        if (any(0, 20) == 0) {
            both("clearSteps()", () -> house.clearSteps(), () -> reference.clearSteps());
        }
        if (any(0, 4) == 0) {
            int n = reference.steps.size();
            long least = n == 0 ? 0 : reference.steps.get(n - 1)[0] + 1;
            long from = any(0, 1) == 0 ? value(least, 1000000000) : value(least, Math.min(1000000000, least + 100000));
            int permille = number(0, 1000);
            both("step(" + from + ", " + permille + ")", () -> house.step(from, permille), () -> reference.step(from, permille));
        }
        long money = any(0, 1) == 0 ? value(0, 1000000000000L) : value(0, 2000000);
        long left = value(0, 1000000000);
        both("tax(" + money + ")", () -> house.tax(money), () -> reference.tax(money));
        both("untaxed(" + left + ")", () -> house.untaxed(left), () -> reference.untaxed(left));
    }

    /** The least rate of all, tried one by one, for short rows and bonds. */
    private void tryAllRates() {
        begin();
        long money = any(1000, 9000);
        long back = any(1000, 3000);
        int many = (int) any(1, 6);
        both("pay(0)", () -> house.pay(0, -money), () -> reference.pay(0, -money));
        both("payMany(1)", () -> house.payMany(1, many, back, 1), () -> reference.payMany(1, many, back, 1));
        both("rowYield() of all", () -> house.rowYield(), () -> reference.rowYield(true));
        both("bondYield() of all", () -> house.bondYield(back, money, many, money), () -> reference.bondYield(back, money, many, money, true));
    }

    /** The greatest numbers of all, by one way to round. */
    private void greatest(int mode) {
        begin();
        both("setMode(" + mode + ")", () -> house.setMode(mode), () -> reference.setMode(mode));
        both("payMany of the greatest", () -> house.payMany(0, 41, 1000000000, 0), () -> reference.payMany(0, 41, 1000000000, 0));
        for (int points = 19999; points <= 20000; points++) {
            int rate = points;
            both("worth(0, " + rate + ")", () -> house.worth(0, rate), () -> reference.worth(0, rate));
            both("worth(17, " + rate + ")", () -> house.worth(17, rate), () -> reference.worth(17, rate));
            both("worth(40, " + rate + ")", () -> house.worth(40, rate), () -> reference.worth(40, rate));
        }
        both("payMany of the least", () -> house.payMany(40, 1, -1000000000, 0), () -> reference.payMany(40, 1, -1000000000, 0));
        both("pay of the least", () -> house.pay(40, -1000000000), () -> reference.pay(40, -1000000000));
        both("errors(19999)", () -> house.errors(19999), () -> reference.errors(19999));
        both("rowYield()", () -> house.rowYield(), () -> reference.rowYield(false));
        both("price", () -> house.price(1000000000, 1000000000, 40, 1), () -> reference.price(1000000000, 1000000000, 40, 1));
        both("bondYield", () -> house.bondYield(1000000000, 1000000000, 40, 5000000001L),
                () -> reference.bondYield(1000000000, 1000000000, 40, 5000000001L, false));
        greatestLoan();
        greatestLives();
    }

    private void greatestLoan() {
        both("lend", () -> house.lend(1000000000, 19999, 60), () -> reference.lend(1000000000, 19999, 60));
        for (int p = 1; p <= 59; p++) {
            int period = p;
            both("holiday(" + p + ")", () -> house.holiday(period), () -> reference.holiday(period));
        }
        for (int p = 2; p <= 60; p += p < 50 ? 7 : 1) {
            int period = p;
            both("change(" + p + ")", () -> house.change(period, 20000), () -> reference.change(period, 20000));
        }
        for (int p = 60; p >= 1; p -= 6) {
            int period = p;
            both("holiday(" + p + ")", () -> house.holiday(period), () -> reference.holiday(period));
            both("early(" + p + ")", () -> house.early(period, 1000000000), () -> reference.early(period, 1000000000));
        }
        compareStates();
        both("errors(0)", () -> house.errors(0), () -> reference.errors(0));
    }

    private void greatestLives() {
        for (int a = 0; a <= 30; a++) {
            int left = a < 5 ? 1000000 : a < 12 ? 3 : 1;
            both("live(" + left + ")", () -> house.live(left), () -> reference.live(left));
        }
        for (int points : new int[] {0, 1, 19999, 20000}) {
            for (int a = 0; a <= 30; a += 5) {
                int age = a;
                both("lifeWorth", () -> house.lifeWorth(age, 1000000000, points), () -> reference.lifeWorth(age, 1000000000, points));
                both("deathWorth", () -> house.deathWorth(age, 1000000000, points), () -> reference.deathWorth(age, 1000000000, points));
                both("premium", () -> house.premium(age, 1000000000, points), () -> reference.premium(age, 1000000000, points));
                both("reserve", () -> house.reserve(0, age, 1000000000, points, true), () -> reference.reserve(0, age, 1000000000, points, true));
                both("reserve", () -> house.reserve(4, age, 1000000000, points, false), () -> reference.reserve(4, age, 1000000000, points, false));
            }
            both("errors(" + points + ")", () -> house.errors(points), () -> reference.errors(points));
        }
    }
}
