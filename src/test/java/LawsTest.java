import java.math.BigInteger;

/**
 * What the document says, as laws between the answers of houses: the words for one call are held against other calls, or against
 * sums worked out here, with inputs by chance. LoanLawsTest does so for loans.
 */
public final class LawsTest {
    private static final int TURNS = 3000;
    private static final long MOST_AMOUNT = 1000000000L;
    private static final long MOST_MONEY = 1000000000000L;

    private final Check check = new Check();
    private final Chance chance = new Chance(1911);
    private AnnuityHouse house;
    /** The row as it was told. */
    private long[] row;
    /** The lives as they were told. */
    private int[] lives;

    private LawsTest() {
    }

    public static void main(String[] args) {
        LawsTest test = new LawsTest();
        for (int turn = 0; turn < TURNS; turn++) {
            test.begin(turn % 8);
            test.rounds();
            test.pays();
            test.rowsAreWorth();
            test.yields();
            test.bonds();
            test.ages();
            test.parts();
            test.taxes();
            test.check.due(0, "errors", () -> test.house.errors(test.chance.rate()));
        }
        test.check.end();
    }

    private void begin(int mode) {
        house = new AnnuityHouse();
        check.due(AnnuityHouse.HALF_EVEN, "the way before", () -> house.setMode(mode));
    }

    private void holds(String law, boolean isSo) {
        check.due(true, law + " by mode " + house.mode(), () -> isSo);
    }

    /** What a house answers that has the same way to round, and nothing else. */
    private AnnuityHouse other() {
        AnnuityHouse other = new AnnuityHouse();
        other.setMode(house.mode());
        return other;
    }

    /** 0 rounds down, 1 up, so that the exact number lies between them. */
    private static AnnuityHouse bound(int side) {
        AnnuityHouse bound = new AnnuityHouse();
        bound.setMode(side == 0 ? AnnuityHouse.FLOOR : AnnuityHouse.CEILING);
        return bound;
    }

    private void rounds() {
        long over = chance.upTo(MOST_MONEY) * (chance.once(2) ? 1 : -1);
        long under = Math.max(1, chance.upTo(MOST_MONEY));
        int digits = chance.anyInt(0, 6);
        String call = "round(" + over + ", " + under + ", " + digits + ")";
        BigInteger scaled = BigInteger.valueOf(over).multiply(BigInteger.TEN.pow(digits));
        Object answer = Check.outcome(() -> house.round(over, under, digits));
        long floor = bound(0).round(over, under, digits);
        BigInteger rest = scaled.subtract(BigInteger.valueOf(floor).multiply(BigInteger.valueOf(under)));
        holds(call + ", FLOOR is the next lesser one", rest.signum() >= 0 && rest.compareTo(BigInteger.valueOf(under)) < 0);
        int half = rest.shiftLeft(1).compareTo(BigInteger.valueOf(under));
        check.due(roundedFrom(floor, rest.signum() == 0, half), call + " by mode " + house.mode(), () -> answer);
        check.due(answer, call + ", halves and all the other way", () -> mirrored(over, under, digits));
    }

    /** What is due of the next lesser one, whether it is the number itself, and how the rest compares with a half. */
    private Object roundedFrom(long floor, boolean isWhole, int half) {
        if (isWhole) {
            return floor;
        }
        boolean isBelow = floor < 0;
        boolean isUp;
        switch (house.mode()) {
            case AnnuityHouse.EXACT:
                return "throws.IllegalStateException";
            case AnnuityHouse.UP:
                isUp = !isBelow;
                break;
            case AnnuityHouse.DOWN:
                isUp = isBelow;
                break;
            case AnnuityHouse.CEILING:
            case AnnuityHouse.FLOOR:
                isUp = house.mode() == AnnuityHouse.CEILING;
                break;
            case AnnuityHouse.HALF_EVEN:
                isUp = half > 0 || half == 0 && floor % 2 != 0;
                break;
            default:
                isUp = half > 0 || half == 0 && (house.mode() == AnnuityHouse.HALF_UP) != isBelow;
                break;
        }
        return floor + (isUp ? 1 : 0);
    }

    /** The number below 0 for the one above, with CEILING for FLOOR. */
    private Object mirrored(long over, long under, int digits) {
        AnnuityHouse mirror = new AnnuityHouse();
        int mode = house.mode();
        mirror.setMode(mode == AnnuityHouse.CEILING ? AnnuityHouse.FLOOR : mode == AnnuityHouse.FLOOR ? AnnuityHouse.CEILING : mode);
        Object answer = Check.outcome(() -> mirror.round(-over, under, digits));
        return answer instanceof Long ? (Object) (-(Long) answer) : answer;
    }

    /** Many amounts at once are the same as one behind the other, and none of them if one is refused. */
    private void pays() {
        row = new long[41];
        for (int i = chance.anyInt(1, 6); i > 0; i--) {
            int from = chance.anyInt(0, 40);
            int many = chance.anyInt(1, 41 - from);
            long amount = chance.upTo(MOST_AMOUNT) * (chance.once(2) ? 1 : -1);
            long step = chance.upTo(1000000) * (chance.once(2) ? 1 : -1);
            long[] then = row.clone();
            boolean isAllowed = true;
            for (int k = 0; k < many; k++) {
                then[from + k] += amount + k * step;
                isAllowed &= Math.abs(then[from + k]) <= MOST_AMOUNT;
            }
            row = isAllowed ? then : row;
            check.due(isAllowed ? (Object) paying() : "throws.IllegalStateException",
                    "payMany(" + from + ", " + many + ", " + amount + ", " + step + ")", () -> house.payMany(from, many, amount, step));
        }
        long sum = 0;
        int changes = 0;
        long before = 0;
        for (int period = 0; period <= 40; period++) {
            int which = period;
            check.due(row[period], "amount(" + period + ")", () -> house.amount(which));
            changes += row[period] != 0 && before != 0 && Long.signum(row[period]) != Long.signum(before) ? 1 : 0;
            before = row[period] != 0 ? row[period] : before;
            sum += row[period];
        }
        double mean = paying() == 0 ? 0.0 : (double) sum / (double) paying();
        check.due(mean, "meanAmount()", () -> house.meanAmount());
        check.due(changes, "changes()", () -> house.changes());
    }

    private int paying() {
        int paying = 0;
        for (long amount : row) {
            paying += amount != 0 ? 1 : 0;
        }
        return paying;
    }

    private AnnuityHouse withRow(AnnuityHouse one, long[] amounts) {
        for (int period = 0; period < amounts.length; period++) {
            one.pay(period, amounts[period]);
        }
        return one;
    }

    /** Between two whole numbers that are as near as can be, of the sign that is told, and carried on by what the rate says. */
    private void rowsAreWorth() {
        int period = chance.anyInt(0, 40);
        int points = chance.rate();
        long floor = withRow(bound(0), row).worth(period, points);
        long ceiling = withRow(bound(1), row).worth(period, points);
        int sign = house.signAt(points);
        String call = "worth(" + period + ", " + points + ")";
        holds(call + " lies between", floor == ceiling || floor + 1 == ceiling);
        holds(call + " has the sign", sign > 0 ? ceiling > 0 : sign < 0 ? floor < 0 : floor == 0 && ceiling == 0);
        Object answer = Check.outcome(() -> house.worth(period, points));
        if (house.mode() == AnnuityHouse.EXACT || floor == ceiling) {
            check.due(floor == ceiling ? (Object) floor : "throws.IllegalStateException", call, () -> answer);
        } else {
            holds(call + " is one of both", answer.equals(floor) || answer.equals(ceiling));
        }
        if (period < 40) {
            long next = withRow(bound(0), row).worth(period + 1, points);
            holds(call + " is carried on to the next", isWithin(next, floor, points, -1) && isWithin(next + 1, ceiling, points, 1));
        }
    }

    /** Whether a number is at least, or at most, another one carried on by a period, give or take one. */
    private static boolean isWithin(long number, long carried, int points, int side) {
        BigInteger on = BigInteger.valueOf(carried).multiply(BigInteger.valueOf(100000 + points));
        BigInteger one = BigInteger.valueOf(number).multiply(BigInteger.valueOf(100000));
        return side < 0 ? one.add(BigInteger.valueOf(100000)).compareTo(on) >= 0 : one.subtract(BigInteger.valueOf(100000)).compareTo(on) <= 0;
    }

    /** At the rate that is found the row is worth nothing or has its first sign, at those below it neither. */
    private void yields() {
        AnnuityHouse one = new AnnuityHouse();
        int sign = chance.once(2) ? 1 : -1;
        int from = chance.anyInt(0, 20);
        int turn = chance.anyInt(from + 1, 40);
        long money = chance.upTo(100000000) + 1;
        one.payMany(from, turn - from, sign * money, sign * chance.any(0, 1000));
        one.payMany(turn, 41 - turn, -sign * (chance.upTo(3 * money) + 1), -sign * chance.any(0, 1000));
        String told = "a row of " + sign * money + " from " + from + " and back from " + turn;
        check.due(1, told + ": changes()", () -> one.changes());
        int points = one.rowYield();
        if (points == AnnuityHouse.NONE) {
            check.due(-sign, told + " has no rate", () -> one.signAt(20000));
        } else {
            holds(told + " has the rate " + points, one.signAt(points) != -sign);
            int below = points < 3 ? points - 1 : chance.anyInt(points - 3, points - 1);
            holds(told + " has no lesser rate than " + points, points == 0 || one.signAt(below) == -sign && one.signAt(points - 1) == -sign);
        }
    }

    /** A bond is a row of its coupons and its face; at the rate that is found money and bond together are worth not more than 0. */
    private void bonds() {
        int periods = chance.anyInt(1, 40);
        long coupon = chance.upTo(400000000);
        long face = chance.upTo(500000000);
        int points = chance.rate();
        String told = "a bond " + coupon + ", " + face + ", " + periods;
        AnnuityHouse one = other();
        one.payMany(1, periods, coupon, 0);
        one.pay(periods, face);
        check.due(Check.outcome(() -> one.worth(0, points)), told + " at " + points, () -> house.price(coupon, face, periods, points));
        long money = chance.once(2) ? chance.upTo(MOST_AMOUNT) : Math.min(MOST_AMOUNT, bound(0).price(coupon, face, periods, points) + chance.any(0, 1));
        int found = house.bondYield(coupon, face, periods, money);
        one.pay(0, -money);
        if (found == AnnuityHouse.NONE) {
            check.due(1, told + " has no rate for " + money, () -> one.signAt(20000));
        } else {
            holds(told + " has the rate " + found, one.signAt(found) <= 0 && (found == 0 || one.signAt(found - 1) > 0));
        }
        int length = chance.anyInt(1, 366);
        int days = chance.anyInt(0, length);
        long part = chance.upTo(MOST_MONEY / 366);
        check.due(Check.outcome(() -> house.round(Math.min(MOST_AMOUNT, part) * days, length, 0)), "accrued",
                () -> house.accrued(Math.min(MOST_AMOUNT, part), days, length));
    }

    /** For as many as are left, payments for a life, and on death, are a row of payments of all those who get them. */
    private void ages() {
        lives = new int[chance.anyInt(1, 30)];
        int before = chance.anyInt(1, chance.once(2) ? 30 : 1000);
        for (int age = 0; age < lives.length; age++) {
            lives[age] = chance.anyInt(Math.max(1, before - before / chance.anyInt(3, 20)), before);
            before = lives[age];
            house.live(before);
        }
        int age = chance.anyInt(0, lives.length - 1);
        int points = chance.rate();
        long each = chance.any(0, 1000);
        AnnuityHouse life = withRow(other(), rowOfLife(age, each));
        AnnuityHouse death = withRow(other(), rowOfDeath(age, each));
        String told = "age " + age + " of " + lives.length + " at " + points;
        check.due(Check.outcome(() -> life.worth(0, points)), told + " lifeWorth", () -> house.lifeWorth(age, each * lives[age], points));
        check.due(Check.outcome(() -> death.worth(0, points)), told + " deathWorth", () -> house.deathWorth(age, each * lives[age], points));
        premiums(age, each, points, told);
        reserves(age, points, told);
    }

    private long[] rowOfLife(int age, long each) {
        long[] amounts = new long[31];
        for (int year = 0; age + year < lives.length; year++) {
            amounts[year] = each * lives[age + year];
        }
        return amounts;
    }

    private long[] rowOfDeath(int age, long each) {
        long[] amounts = new long[31];
        for (int year = 0; age + year < lives.length; year++) {
            int next = age + year + 1;
            amounts[year + 1] = each * (lives[age + year] - (next < lives.length ? lives[next] : 0));
        }
        return amounts;
    }

    /** The greatest whole premium that is not worth more than the sum on death, and one more that is. */
    private void premiums(int age, long money, int points, String told) {
        AnnuityHouse floor = new AnnuityHouse();
        floor.setMode(AnnuityHouse.FLOOR);
        for (int left : lives) {
            floor.live(left);
        }
        long premium = floor.premium(age, money, points);
        int[] signs = new int[2];
        for (int more = 0; more < 2; more++) {
            AnnuityHouse balance = withRow(new AnnuityHouse(), rowOfDeath(age, money));
            withRow(balance, rowOfLife(age, -(premium + more)));
            signs[more] = balance.signAt(points);
        }
        holds(told + " premium " + premium + " for " + money, signs[0] >= 0 && signs[1] < 0);
        boolean isWhole = signs[0] == 0;
        Object answer = Check.outcome(() -> house.premium(age, money, points));
        boolean isNext = answer.equals(premium + 1) && !isWhole;
        holds(told + " premium " + answer, house.mode() == AnnuityHouse.EXACT && !isWhole ? answer.equals("throws.IllegalStateException")
                : answer.equals(premium) || isNext);
    }

    /** Looking back and looking forward find the same, nothing at first; without interest, premiums are whole for some sums. */
    private void reserves(int age, int points, String told) {
        int years = chance.anyInt(0, lives.length - 1 - age);
        long money = chance.upTo(MOST_AMOUNT);
        Object back = Check.outcome(() -> house.reserve(age, years, money, points, true));
        check.due(back, told + " reserve behind " + years, () -> house.reserve(age, years, money, points, false));
        check.due(0, told + " reserve at first", () -> house.reserve(age, 0, money, points, chance.once(2)));
        long living = 0;
        long livingThen = 0;
        for (int a = age; a < lives.length; a++) {
            living += lives[a];
            livingThen += a >= age + years ? lives[a] : 0;
        }
        long sum = living * lives[age + years];
        long premium = (long) lives[age] * lives[age + years];
        if (sum <= MOST_AMOUNT) {
            long kept = sum - livingThen * (premium / lives[age + years]);
            check.due(premium, told + " whole premium", () -> house.premium(age, sum, 0));
            check.due(kept, told + " reserve forward", () -> house.reserve(age, years, sum, 0, false));
            check.due(kept, told + " reserve back", () -> house.reserve(age, years, sum, 0, true));
        }
    }

    /** All parts are the whole; nobody gets more than a cent beyond their share, and nobody who lost less gets it ahead of others. */
    private void parts() {
        int many = chance.anyInt(1, 12);
        long[] weights = new long[many];
        long all = 0;
        for (int i = 0; i < many; i++) {
            weights[i] = chance.upTo(chance.once(2) ? 1000000 : 5);
            house.weigh((int) weights[i]);
            all += weights[i];
        }
        long money = chance.upTo(MOST_MONEY);
        if (all == 0) {
            check.element("part of nothing", () -> house.part(money, 0));
            return;
        }
        long rest = money;
        for (int i = 0; i < many; i++) {
            int which = i;
            long share = money * weights[i] / all;
            int ahead = 0;
            long lostByAll = 0;
            for (int k = 0; k < many; k++) {
                int compared = Long.compare(money * weights[k] % all, money * weights[i] % all);
                ahead += compared > 0 || compared == 0 && k < i ? 1 : 0;
                lostByAll += money * weights[k] % all;
            }
            long due = share + (ahead * all < lostByAll ? 1 : 0);
            rest -= house.part(money, which);
            check.due(due, "part(" + money + ", " + i + ") of " + all, () -> house.part(money, which));
        }
        holds("all parts are " + money, rest == 0);
    }

    /** Each step is the tax of a house with this step alone, less that of what stands behind it. */
    private void taxes() {
        int many = chance.anyInt(0, 8);
        long from = chance.any(0, 3) * 1000;
        long money = chance.upTo(MOST_MONEY / 1000) * 1000;
        long sum = 0;
        for (int i = 0; i < many; i++) {
            int permille = chance.once(4) ? 1000 * chance.anyInt(0, 1) : chance.anyInt(0, 1000);
            long next = from + 1000 * (1 + chance.upTo(120000));
            house.step(from, permille);
            sum += oneStep(from, permille, money) - (i + 1 < many ? oneStep(next, permille, money) : 0);
            from = next;
        }
        long due = sum;
        check.due(due, many + " steps, tax(" + money + ")", () -> house.tax(money));
        leaves(chance.once(3) ? chance.any(0, 2000) : chance.upTo(MOST_AMOUNT));
    }

    private static long oneStep(long from, int permille, long money) {
        AnnuityHouse one = new AnnuityHouse();
        one.setMode(AnnuityHouse.EXACT);
        one.step(from, permille);
        return one.tax(money);
    }

    /** The tax that is rounded up leaves as many whole cents as the exact one. */
    private void leaves(long money) {
        int mode = house.setMode(AnnuityHouse.CEILING);
        long whole = house.untaxed(money);
        if (whole == AnnuityHouse.NONE) {
            holds("no money leaves " + money, MOST_MONEY - house.tax(MOST_MONEY) < money);
        } else {
            holds(whole + " leaves " + money, whole - house.tax(whole) >= money);
            holds("less than " + whole + " leaves less than " + money, whole == 0 || whole - 1 - house.tax(whole - 1) < money);
        }
        house.setMode(mode);
    }
}
