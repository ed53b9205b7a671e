import java.util.Arrays;
import java.util.NoSuchElementException;

/**
 * Money over time: rows of payments, loans, bonds, lives, parts of a sum and taxes, exact and rounded only where it is told.
 *
 * <p>All parts are made with the house and used again, so that no call makes an object.
 */
public final class AnnuityHouse {
    public static final int NONE = -1;
    public static final int UP = 0, DOWN = 1, CEILING = 2, FLOOR = 3, HALF_UP = 4, HALF_DOWN = 5, HALF_EVEN = 6, EXACT = 7;

    private static final int LAST_PERIOD = 40;
    private static final int MOST_POINTS = 20000;
    private static final int MOST_DIGITS = 6;
    private static final int MOST_LOAN_PERIODS = 60;
    private static final int MOST_BOND_PERIODS = 40;
    private static final int MOST_DAYS = 366;
    private static final int MOST_AGES = 30;
    private static final int MOST_LEFT = 1000000;
    private static final int MOST_PEOPLE = 12;
    private static final int MOST_WEIGHT = 1000000;
    private static final int MOST_STEPS = 8;
    private static final int MOST_PERMILLE = 1000;
    private static final long MOST_STEP = 1000000L;
    private static final long MOST_AMOUNT = 1000000000L;
    private static final long MOST_MONEY = 1000000000000L;
    private static final long POINTS_OF_ONE = 100000L;
    private static final long CHECKED_MONEY = 1000003L;
    /** More than any loop without a bound of its own can need. */
    private static final int MOST_TURNS = 1000000;

    private final Rounder rounder = new Rounder();
    private final Row row = new Row();
    private final Bond bond = new Bond();
    private final Lives lives = new Lives();
    private final Shares shares = new Shares();
    private final Taxes taxes = new Taxes();
    private Loan loan = new Loan();
    private Loan nextLoan = new Loan();

    public AnnuityHouse() {
    }

    public int setMode(int mode) throws IllegalArgumentException {
        demand(isWithin(mode, UP, EXACT));
        int before = rounder.mode;
        rounder.mode = mode;
        return before;
    }

    public int mode() {
        return rounder.mode;
    }

    public long round(long over, long under, int digits) throws IllegalArgumentException, IllegalStateException {
        demand(isWithin(over, -MOST_MONEY, MOST_MONEY));
        demand(isWithin(under, 1, MOST_MONEY));
        demand(isWithin(digits, 0, MOST_DIGITS));
        long scaled = over;
        for (int digit = 0; digit < digits; digit++) {
            scaled *= 10;
        }
        return rounder.ratio(scaled, under);
    }

    public long pay(int period, long amount) throws IllegalArgumentException, IllegalStateException {
        demand(isWithin(period, 0, LAST_PERIOD));
        demand(isWithin(amount, -MOST_AMOUNT, MOST_AMOUNT));
        row.add(period, 1, amount, 0);
        return row.amountIn(period);
    }

    public int payMany(int from, int many, long amount, long step) throws IllegalArgumentException, IllegalStateException {
        demand(isWithin(from, 0, LAST_PERIOD));
        demand(isWithin(many, 1, LAST_PERIOD + 1));
        demand(isWithin(amount, -MOST_AMOUNT, MOST_AMOUNT));
        demand(isWithin(step, -MOST_STEP, MOST_STEP));
        demand(from + many - 1 <= LAST_PERIOD);
        row.add(from, many, amount, step);
        return row.countPaying();
    }

    public int clearRow() {
        int before = row.countPaying();
        row.clear();
        return before;
    }

    public long amount(int period) throws IllegalArgumentException {
        demand(isWithin(period, 0, LAST_PERIOD));
        return row.amountIn(period);
    }

    public long worth(int period, int points) throws IllegalArgumentException, IllegalStateException {
        demand(isWithin(period, 0, LAST_PERIOD));
        demandRate(points);
        return row.worthIn(period, points, rounder);
    }

    public int signAt(int points) throws IllegalArgumentException {
        demandRate(points);
        return row.signOfWorth(points);
    }

    public int changes() {
        return row.countChanges();
    }

    public int rowYield() throws IllegalStateException {
        demandState(row.countChanges() == 1);
        return row.yieldPoints();
    }

    public long lend(long money, int points, int periods) throws IllegalArgumentException, IllegalStateException {
        demand(isWithin(money, 1, MOST_AMOUNT));
        demandRate(points);
        demand(isWithin(periods, 1, MOST_LOAN_PERIODS));
        nextLoan.begin(money, points, periods);
        nextLoan.workOut(rounder);
        takeNextLoan();
        return loan.cell(1, Loan.INSTALMENT);
    }

    public boolean holiday(int period) throws IllegalArgumentException, IllegalStateException {
        demandLoan();
        demand(isWithin(period, 1, loan.periods - 1));
        nextLoan.copyTerms(loan);
        boolean isHoliday = nextLoan.switchHoliday(period);
        nextLoan.workOut(rounder);
        takeNextLoan();
        return isHoliday;
    }

    public int change(int period, int points) throws IllegalArgumentException, IllegalStateException {
        demandLoan();
        demand(isWithin(period, 2, loan.periods));
        demandRate(points);
        nextLoan.copyTerms(loan);
        nextLoan.tellRate(period, points);
        nextLoan.workOut(rounder);
        takeNextLoan();
        return loan.tableRows;
    }

    public int early(int period, long money) throws IllegalArgumentException, IllegalStateException {
        demandLoan();
        demand(isWithin(period, 1, loan.periods));
        demand(isWithin(money, 0, MOST_AMOUNT));
        nextLoan.copyTerms(loan);
        nextLoan.tellEarly(period, money);
        nextLoan.workOut(rounder);
        takeNextLoan();
        return loan.tableRows;
    }

    public int rows() throws IllegalStateException {
        demandLoan();
        return loan.tableRows;
    }

    public long rowOf(int period, int what) throws IllegalArgumentException, NoSuchElementException, IllegalStateException {
        demandLoan();
        demand(isWithin(what, 0, Loan.INSTALMENT));
        demandElement(isWithin(period, 1, loan.tableRows));
        return loan.cell(period, what);
    }

    public long total(int what) throws IllegalArgumentException, IllegalStateException {
        demandLoan();
        demand(isWithin(what, Loan.INTEREST, Loan.REPAID));
        return loan.sumOf(what);
    }

    public long price(long coupon, long face, int periods, int points) throws IllegalArgumentException, IllegalStateException {
        demandBond(coupon, face, periods);
        demandRate(points);
        return bond.worthNow(coupon, face, periods, points, rounder);
    }

    public int bondYield(long coupon, long face, int periods, long money) throws IllegalArgumentException {
        demandBond(coupon, face, periods);
        demand(isWithin(money, 0, MOST_MONEY));
        return bond.yieldPoints(coupon, face, periods, money);
    }

    public long accrued(long coupon, int days, int length) throws IllegalArgumentException, IllegalStateException {
        demand(isWithin(coupon, 0, MOST_AMOUNT));
        demand(isWithin(length, 1, MOST_DAYS));
        demand(isWithin(days, 0, length));
        return rounder.ratio(coupon * days, length);
    }

    public int live(int left) throws IllegalArgumentException, IllegalStateException {
        demand(isWithin(left, 1, lives.mostLeftNext()));
        demandState(lives.ages < MOST_AGES);
        return lives.add(left);
    }

    public int clearLives() {
        return lives.clear();
    }

    public long lifeWorth(int age, long money, int points) throws IllegalArgumentException, NoSuchElementException, IllegalStateException {
        demandInsured(age, money, points);
        return lives.worthOfLife(age, money, points, rounder);
    }

    public long deathWorth(int age, long money, int points) throws IllegalArgumentException, NoSuchElementException, IllegalStateException {
        demandInsured(age, money, points);
        return lives.worthOfDeath(age, money, points, rounder);
    }

    public long premium(int age, long money, int points) throws IllegalArgumentException, NoSuchElementException, IllegalStateException {
        demandInsured(age, money, points);
        return lives.yearlyPremium(age, money, points, rounder);
    }

    public long reserve(int age, int years, long money, int points, boolean isBack) throws IllegalArgumentException, NoSuchElementException, IllegalStateException {
        demand(years >= 0);
        demandInsured(age, money, points);
        demandElement(years < lives.ages - age);
        // The premium is exact, so that looking back and looking forward find the same.
        return lives.keptAfter(age, years, money, points, rounder);
    }

    public int weigh(int weight) throws IllegalArgumentException, IllegalStateException {
        demand(isWithin(weight, 0, MOST_WEIGHT));
        demandState(shares.people < MOST_PEOPLE);
        return shares.add(weight);
    }

    public int clearWeights() {
        return shares.clear();
    }

    public long part(long money, int which) throws IllegalArgumentException, NoSuchElementException {
        demand(isWithin(money, 0, MOST_MONEY));
        demandElement(isWithin(which, 0, shares.people - 1));
        demandElement(shares.allWeights() > 0);
        return shares.partOf(money, which);
    }

    public int step(long from, int permille) throws IllegalArgumentException, IllegalStateException {
        demand(isWithin(from, taxes.leastNextFrom(), MOST_AMOUNT));
        demand(isWithin(permille, 0, MOST_PERMILLE));
        demandState(taxes.steps < MOST_STEPS);
        return taxes.add(from, permille);
    }

    public int clearSteps() {
        return taxes.clear();
    }

    public long tax(long money) throws IllegalArgumentException, IllegalStateException {
        demand(isWithin(money, 0, MOST_MONEY));
        return rounder.ratio(taxes.thousandfoldOf(money), MOST_PERMILLE);
    }

    public long untaxed(long money) throws IllegalArgumentException {
        demand(isWithin(money, 0, MOST_AMOUNT));
        return taxes.leastLeaving(money);
    }

    public int errors(int points) throws IllegalArgumentException {
        demandRate(points);
        int failed = 0;
        failed += row.isCarriedAlike(points) ? 0 : 1;
        failed += loan.isRepaid() ? 0 : 1;
        failed += lives.isSumShared(points) ? 0 : 1;
        failed += shares.isPartedWhole(CHECKED_MONEY) ? 0 : 1;
        return failed;
    }

    public double meanAmount() {
        int paying = row.countPaying();
        return paying == 0 ? 0.0 : (double) row.sum() / (double) paying;
    }

    public float interestShare() {
        // Of a loan something is always paid.
        long paid = loan.sumOf(Loan.PAID);
        return paid == 0 ? 0.0f : (float) loan.sumOf(Loan.INTEREST) / (float) paid;
    }

    /** The terms told last are worked out beside the loan, so that a refusal leaves the loan as it was. */
    private void takeNextLoan() {
        Loan before = loan;
        loan = nextLoan;
        nextLoan = before;
    }

    private void demandLoan() {
        demandState(loan.periods > 0);
    }

    private void demandInsured(int age, long money, int points) {
        demand(isWithin(money, 0, MOST_AMOUNT));
        demandRate(points);
        demandElement(isWithin(age, 0, lives.ages - 1));
    }

    private static void demandBond(long coupon, long face, int periods) {
        demand(isWithin(coupon, 0, MOST_AMOUNT));
        demand(isWithin(face, 0, MOST_AMOUNT));
        demand(isWithin(periods, 1, MOST_BOND_PERIODS));
    }

    private static void demandRate(int points) {
        demand(isWithin(points, 0, MOST_POINTS));
    }

    private static boolean isWithin(long value, long least, long greatest) {
        return least <= value && value <= greatest;
    }

    private static void demand(boolean isInRange) {
        if (!isInRange) {
            throw new IllegalArgumentException("a parameter is out of range");
        }
    }

    private static void demandState(boolean isReady) {
        if (!isReady) {
            throw new IllegalStateException("not in this state");
        }
    }

    private static void demandElement(boolean isThere) {
        if (!isThere) {
            throw new NoSuchElementException("there is no such one");
        }
    }

    /**
     * A whole number of any length, in limbs of 30 bits, so that a product of two of them and a carry fit a long.
     * Above its limbs a number below 0 goes on with ones, any other with zeros.
     */
    private static final class Whole {
        private static final int BITS = 30;
        private static final long MASK = (1L << BITS) - 1;
        private static final int LIMBS_OF_LONG = 3;
        private static final int USUAL_LIMBS = 40;

        private long[] limbs = new long[USUAL_LIMBS];
        private int size = 0;
        private long top = 0;

        /** There is always room for a long. */
        void set(long value) {
            finish(0, value);
        }

        int sign() {
            if (top < 0) {
                return -1;
            }
            return size > 0 ? 1 : 0;
        }

        /** The factor lies between -2^31 and 2^31. */
        void times(long factor) {
            makeRoom(size);
            long carry = 0;
            for (int i = 0; i < size; i++) {
                carry += limbs[i] * factor;
                limbs[i] = carry & MASK;
                carry >>= BITS;
            }
            finish(size, top * factor + carry);
        }

        void timesPower(long factor, int exponent) {
            for (int i = 0; i < exponent; i++) {
                times(factor);
            }
        }

        /**
         * Becomes itself times own, and the other, moved up by some limbs, times share.
         * Both factors lie between -2^31 and 2^31.
         */
        void combine(long own, Whole other, long share, int moved) {
            int reach = Math.max(size, other.size + moved);
            makeRoom(reach);
            long carry = 0;
            for (int i = 0; i < reach; i++) {
                long mine = i < size ? limbs[i] : top & MASK;
                long theirs = i < moved ? 0 : i - moved < other.size ? other.limbs[i - moved] : other.top & MASK;
                carry += mine * own + theirs * share;
                limbs[i] = carry & MASK;
                carry >>= BITS;
            }
            finish(reach, top * own + other.top * share + carry);
        }

        /** Both numbers are at least 0. */
        boolean isAtLeast(Whole other, int moved) {
            int reach = other.size + moved;
            if (size != reach) {
                return size > reach;
            }
            for (int i = size - 1; i >= moved; i--) {
                if (limb(i) != other.limb(i - moved)) {
                    return limb(i) > other.limb(i - moved);
                }
            }
            return true;
        }

        /**
         * Answers how often the divisor goes into this number, less than 2^60 times, and leaves the rest of it.
         * Both are at least 0, and both are doubled until the divisor's first limb is great enough for good guesses.
         */
        long divide(Whole divisor) {
            if (divisor.size == 0) {
                return 0;
            }
            long scale = scaleOf(divisor.limb(divisor.size - 1));
            times(scale);
            divisor.times(scale);
            long first = divisor.limb(divisor.size - 1);
            long quotient = 0;
            for (int moved = 1; moved >= 0; moved--) {
                int lead = divisor.size + moved;
                for (int turn = 0; turn < MOST_TURNS && isAtLeast(divisor, moved); turn++) {
                    // first + 1 keeps each guess from being too great.
                    long guess = Math.max(1, ((limb(lead) << BITS) + limb(lead - 1)) / (first + 1));
                    combine(1, divisor, -guess, moved);
                    quotient += guess << (moved * BITS);
                }
            }
            return quotient;
        }

        private static long scaleOf(long limb) {
            long scale = 1;
            for (int bit = 1; bit < BITS && limb * scale * 2 <= MASK; bit++) {
                scale *= 2;
            }
            return scale;
        }

        private long limb(int i) {
            return i >= 0 && i < size ? limbs[i] : top & MASK;
        }

        private void makeRoom(int reach) {
            if (reach + LIMBS_OF_LONG > limbs.length) {
                limbs = Arrays.copyOf(limbs, reach + LIMBS_OF_LONG);
            }
        }

        /** What stands from a limb on is the carry; there is room for it. */
        private void finish(int from, long carry) {
            long rest = carry;
            size = from + LIMBS_OF_LONG;
            for (int i = from; i < size; i++) {
                limbs[i] = rest & MASK;
                rest >>= BITS;
            }
            top = rest;
            while (size > 0 && limbs[size - 1] == (top & MASK)) {
                size--;
            }
        }
    }

    /** Rounds fractions by the way that is set. */
    private static final class Rounder {
        private static final int NOTHING = 0, LESS_THAN_HALF = 1, HALF = 2, MORE_THAN_HALF = 3;

        int mode = HALF_EVEN;

        /** What is below the line is above 0. */
        long ratio(long over, long under) {
            if (under <= 0) {
                return 0;
            }
            long size = Math.abs(over);
            long rest = size % under;
            int kind = NOTHING;
            if (rest > 0) {
                kind = kindOf(rest >= under - rest, rest <= under - rest);
            }
            return rounded(over < 0, size / under, kind);
        }

        /** What is below the line is above 0. Both numbers are used up. */
        long ratio(Whole over, Whole under) {
            boolean isBelow = over.sign() < 0;
            if (isBelow) {
                over.times(-1);
            }
            long whole = over.divide(under);
            int kind = NOTHING;
            if (over.sign() > 0) {
                over.times(2);
                kind = kindOf(over.isAtLeast(under, 0), under.isAtLeast(over, 0));
            }
            return rounded(isBelow, whole, kind);
        }

        private static int kindOf(boolean isHalfOrMore, boolean isHalfOrLess) {
            if (!isHalfOrMore) {
                return LESS_THAN_HALF;
            }
            return isHalfOrLess ? HALF : MORE_THAN_HALF;
        }

        private long rounded(boolean isBelow, long whole, int rest) {
            long size = whole;
            if (rest != NOTHING) {
                demandState(mode != EXACT);
                size += isAway(isBelow, whole, rest) ? 1 : 0;
            }
            return isBelow ? -size : size;
        }

        private boolean isAway(boolean isBelow, long whole, int rest) {
            switch (mode) {
                case UP:
                    return true;
                case DOWN:
                    return false;
                case CEILING:
                    return !isBelow;
                case FLOOR:
                    return isBelow;
                case HALF_UP:
                    return rest >= HALF;
                case HALF_DOWN:
                    return rest > HALF;
                default:
                    return rest > HALF || rest == HALF && whole % 2 != 0;
            }
        }
    }

    /**
     * Payments period by period. With the rate up / down, the sum is what they are worth at the first period
     * times up^periods, which is what they are worth at the last one times down^periods.
     */
    private static final class Flow {
        final Whole sum = new Whole();
        private final Whole downPower = new Whole();
        private final Whole power = new Whole();
        long up = 1;
        long down = 1;
        int periods = 0;

        void begin(int points, long amount) {
            long common = commonDivisor(POINTS_OF_ONE, points);
            start((POINTS_OF_ONE + points) / common, POINTS_OF_ONE / common, amount);
        }

        /** The periods run the other way, from the last one to the first. */
        void beginBackwards(int points, long amount) {
            long common = commonDivisor(POINTS_OF_ONE, points);
            start(POINTS_OF_ONE / common, (POINTS_OF_ONE + points) / common, amount);
        }

        private void start(long carryOn, long carryBack, long amount) {
            up = carryOn;
            down = carryBack;
            periods = 0;
            sum.set(amount);
            downPower.set(1);
        }

        void next(long amount) {
            downPower.times(down);
            sum.combine(up, downPower, amount, 0);
            periods++;
        }

        /** It stands until the next power is asked for. */
        Whole upPower(long factor, int exponent) {
            power.set(factor);
            power.timesPower(up, exponent);
            return power;
        }

        /** At least 1, as the first number is above 0. */
        private static long commonDivisor(long first, long second) {
            long greater = first;
            long lesser = second;
            for (int turn = 0; turn < MOST_TURNS && lesser != 0; turn++) {
                long rest = greater % lesser;
                greater = lesser;
                lesser = rest;
            }
            return Math.max(1, greater);
        }
    }

    /** The row of payments. */
    private static final class Row {
        private final long[] amounts = new long[LAST_PERIOD + 1];
        private final Flow flow = new Flow();
        private final Flow backFlow = new Flow();

        long amountIn(int period) {
            return amounts[period];
        }

        void add(int from, int many, long amount, long step) {
            for (int i = 0; i < many; i++) {
                demandState(isWithin(amounts[from + i] + amount + i * step, -MOST_AMOUNT, MOST_AMOUNT));
            }
            for (int i = 0; i < many; i++) {
                amounts[from + i] += amount + i * step;
            }
        }

        void clear() {
            Arrays.fill(amounts, 0);
        }

        int countPaying() {
            int paying = 0;
            for (long amount : amounts) {
                paying += amount != 0 ? 1 : 0;
            }
            return paying;
        }

        long sum() {
            long sum = 0;
            for (long amount : amounts) {
                sum += amount;
            }
            return sum;
        }

        int countChanges() {
            int found = 0;
            long before = 0;
            for (long amount : amounts) {
                if (amount != 0) {
                    found += before != 0 && before < 0 != amount < 0 ? 1 : 0;
                    before = amount;
                }
            }
            return found;
        }

        /** The greatest worth lies far below 10^18: 41 amounts of 10^9, each carried on by less than 1500. */
        long worthIn(int period, int points, Rounder rounder) {
            int last = Math.max(period, lastPaying());
            carry(points, last);
            Whole under = flow.upPower(1, last - period);
            under.timesPower(flow.down, period);
            return rounder.ratio(flow.sum, under);
        }

        int signOfWorth(int points) {
            carry(points, lastPaying());
            return flow.sum.sign();
        }

        /** The signs change just once, so that beyond one rate, and not before, the worth has the first sign. */
        int yieldPoints() {
            int first = firstSign();
            if (signOfWorth(MOST_POINTS) == -first) {
                return NONE;
            }
            int least = 0;
            int greatest = MOST_POINTS;
            for (int turn = 0; turn < MOST_TURNS && least < greatest; turn++) {
                int middle = (least + greatest) / 2;
                if (signOfWorth(middle) == -first) {
                    least = middle + 1;
                } else {
                    greatest = middle;
                }
            }
            return least;
        }

        /** Carrying all on from the first period and carrying all back from the last one find the same. */
        boolean isCarriedAlike(int points) {
            carry(points, LAST_PERIOD);
            backFlow.beginBackwards(points, amounts[LAST_PERIOD]);
            for (int period = LAST_PERIOD - 1; period >= 0; period--) {
                backFlow.next(amounts[period]);
            }
            backFlow.sum.combine(1, flow.sum, -1, 0);
            return backFlow.sum.sign() == 0;
        }

        private void carry(int points, int last) {
            flow.begin(points, amounts[0]);
            for (int period = 1; period <= last; period++) {
                flow.next(amounts[period]);
            }
        }

        private int lastPaying() {
            int last = LAST_PERIOD;
            while (last > 0 && amounts[last] == 0) {
                last--;
            }
            return last;
        }

        private int firstSign() {
            for (long amount : amounts) {
                if (amount != 0) {
                    return amount < 0 ? -1 : 1;
                }
            }
            return 0;
        }
    }

    /** What was told about a loan, and its table. Without periods it is none. */
    private static final class Loan {
        private static final int AHEAD = 0, INTEREST = 1, PAID = 2, REPAID = 3, BEHIND = 4, RATE = 5, INSTALMENT = 6;

        private final int[] rates = new int[MOST_LOAN_PERIODS + 1];
        private final long[] earlies = new long[MOST_LOAN_PERIODS + 1];
        private final boolean[] holidays = new boolean[MOST_LOAN_PERIODS + 1];
        private final long[][] table = new long[INSTALMENT + 1][MOST_LOAN_PERIODS + 1];
        private final Flow flow = new Flow();
        private long lent = 0;
        int periods = 0;
        int tableRows = 0;

        void begin(long money, int points, int manyPeriods) {
            lent = money;
            periods = manyPeriods;
            for (int period = 1; period <= MOST_LOAN_PERIODS; period++) {
                rates[period] = period == 1 ? points : NONE;
                earlies[period] = 0;
                holidays[period] = false;
            }
        }

        void copyTerms(Loan other) {
            lent = other.lent;
            periods = other.periods;
            for (int period = 1; period <= MOST_LOAN_PERIODS; period++) {
                rates[period] = other.rates[period];
                earlies[period] = other.earlies[period];
                holidays[period] = other.holidays[period];
            }
        }

        boolean switchHoliday(int period) {
            holidays[period] = !holidays[period];
            return holidays[period];
        }

        void tellRate(int period, int points) {
            rates[period] = points;
        }

        void tellEarly(int period, long money) {
            earlies[period] = money;
        }

        void workOut(Rounder rounder) {
            long left = lent;
            long instalment = 0;
            int points = 0;
            tableRows = 0;
            for (int period = 1; period <= periods && left > 0; period++) {
                if (rates[period] != NONE) {
                    points = rates[period];
                    instalment = instalmentFor(left, points, periods - period + 1, rounder);
                }
                long interest = rounder.ratio(left * points, POINTS_OF_ONE);
                long paid = paidIn(period, left + interest, instalment);
                table[AHEAD][period] = left;
                table[INTEREST][period] = interest;
                table[PAID][period] = paid;
                table[REPAID][period] = paid - interest;
                left += interest - paid;
                table[BEHIND][period] = left;
                table[RATE][period] = points;
                table[INSTALMENT][period] = instalment;
                tableRows = period;
            }
        }

        private long instalmentFor(long money, int points, int manyPeriods, Rounder rounder) {
            flow.begin(points, 0);
            for (int period = 1; period <= manyPeriods; period++) {
                flow.next(1);
            }
            return rounder.ratio(flow.upPower(money, manyPeriods), flow.sum);
        }

        private long paidIn(int period, long owed, long instalment) {
            if (holidays[period]) {
                return 0;
            }
            if (period == periods || owed <= instalment) {
                return owed;
            }
            return instalment + Math.min(earlies[period], owed - instalment);
        }

        long cell(int period, int what) {
            return table[what][period];
        }

        long sumOf(int what) {
            long sum = 0;
            for (int period = 1; period <= tableRows; period++) {
                sum += table[what][period];
            }
            return sum;
        }

        /** What is repaid is what was lent, and what is paid is this and the interests; without a loan all are 0. */
        boolean isRepaid() {
            return sumOf(REPAID) == lent && sumOf(PAID) == lent + sumOf(INTEREST);
        }
    }

    /** Bonds. */
    private static final class Bond {
        private final Flow flow = new Flow();

        long worthNow(long coupon, long face, int periods, int points, Rounder rounder) {
            carry(coupon, face, periods, points);
            return rounder.ratio(flow.sum, flow.upPower(1, periods));
        }

        /** A bond is worth less the greater the rate is, so that the rates can be halved. */
        int yieldPoints(long coupon, long face, int periods, long money) {
            if (!isWorthAtMost(coupon, face, periods, MOST_POINTS, money)) {
                return NONE;
            }
            int least = 0;
            int greatest = MOST_POINTS;
            for (int turn = 0; turn < MOST_TURNS && least < greatest; turn++) {
                int middle = (least + greatest) / 2;
                if (isWorthAtMost(coupon, face, periods, middle, money)) {
                    greatest = middle;
                } else {
                    least = middle + 1;
                }
            }
            return least;
        }

        private boolean isWorthAtMost(long coupon, long face, int periods, int points, long money) {
            carry(coupon, face, periods, points);
            return flow.upPower(money, periods).isAtLeast(flow.sum, 0);
        }

        private void carry(long coupon, long face, int periods, int points) {
            flow.begin(points, 0);
            for (int period = 1; period < periods; period++) {
                flow.next(coupon);
            }
            flow.next(coupon + face);
        }
    }

    /** The table of lives. */
    private static final class Lives {
        private final int[] left = new int[MOST_AGES];
        private final Flow flow = new Flow();
        private final Flow otherFlow = new Flow();
        int ages = 0;

        int mostLeftNext() {
            return ages == 0 ? MOST_LEFT : left[ages - 1];
        }

        int add(int many) {
            left[ages] = many;
            ages++;
            return ages;
        }

        int clear() {
            int before = ages;
            ages = 0;
            return before;
        }

        long worthOfLife(int age, long money, int points, Rounder rounder) {
            carryLife(flow, age, points);
            flow.sum.times(money);
            return rounder.ratio(flow.sum, flow.upPower(left[age], flow.periods));
        }

        long worthOfDeath(int age, long money, int points, Rounder rounder) {
            carryDeath(flow, age, points);
            flow.sum.times(money);
            return rounder.ratio(flow.sum, flow.upPower(left[age], flow.periods));
        }

        /** Payments on death run for one period more than payments for a life. */
        long yearlyPremium(int age, long money, int points, Rounder rounder) {
            carryDeath(flow, age, points);
            carryLife(otherFlow, age, points);
            flow.sum.times(money);
            otherFlow.sum.times(flow.up);
            return rounder.ratio(flow.sum, otherFlow.sum);
        }

        /**
         * A sum of 1 on death is worth 1 less what its yearly interest, paid in advance, is worth for the life.
         * So what is kept is the money times 1 less a, where a is what a life is worth then, divided by what it is
         * worth at first.
         */
        long keptAfter(int age, int years, long money, int points, Rounder rounder) {
            int then = age + years;
            carryLife(flow, age, points);
            carryLife(otherFlow, then, points);
            flow.sum.times(left[then]);
            otherFlow.sum.times(left[age]);
            otherFlow.sum.timesPower(flow.up, years);
            otherFlow.sum.combine(-1, flow.sum, 1, 0);
            otherFlow.sum.times(money);
            return rounder.ratio(otherFlow.sum, flow.sum);
        }

        /** For the first age: a sum on death, and its yearly interest in advance for the life, are worth the sum. */
        boolean isSumShared(int points) {
            if (ages == 0) {
                return true;
            }
            carryDeath(flow, 0, points);
            carryLife(otherFlow, 0, points);
            flow.sum.combine(1, otherFlow.sum, flow.up - flow.down, 0);
            flow.sum.combine(1, flow.upPower(left[0], flow.periods), -1, 0);
            return flow.sum.sign() == 0;
        }

        private void carryLife(Flow target, int age, int points) {
            target.begin(points, left[age]);
            for (int next = age + 1; next < ages; next++) {
                target.next(left[next]);
            }
        }

        private void carryDeath(Flow target, int age, int points) {
            target.begin(points, 0);
            for (int now = age; now < ages; now++) {
                target.next(now + 1 < ages ? left[now] - left[now + 1] : left[now]);
            }
        }
    }

    /** Those who get parts of a sum. */
    private static final class Shares {
        private final int[] weights = new int[MOST_PEOPLE];
        int people = 0;

        int add(int weight) {
            weights[people] = weight;
            people++;
            return people;
        }

        int clear() {
            int before = people;
            people = 0;
            return before;
        }

        long allWeights() {
            long sum = 0;
            for (int i = 0; i < people; i++) {
                sum += weights[i];
            }
            return sum;
        }

        long partOf(long money, int which) {
            long all = allWeights();
            if (all <= 0) {
                return 0;
            }
            long lost = money * weights[which] % all;
            long lostByAll = 0;
            int ahead = 0;
            for (int i = 0; i < people; i++) {
                long lostByThis = money * weights[i] % all;
                lostByAll += lostByThis;
                ahead += lostByThis > lost || lostByThis == lost && i < which ? 1 : 0;
            }
            // So many cents are left as there are wholes in what all have lost.
            return money * weights[which] / all + (ahead < lostByAll / all ? 1 : 0);
        }

        boolean isPartedWhole(long money) {
            if (allWeights() == 0) {
                return true;
            }
            long parted = 0;
            for (int i = 0; i < people; i++) {
                parted += partOf(money, i);
            }
            return parted == money;
        }
    }

    /** The steps of the tax. */
    private static final class Taxes {
        private final long[] froms = new long[MOST_STEPS];
        private final int[] permilles = new int[MOST_STEPS];
        int steps = 0;

        long leastNextFrom() {
            return steps == 0 ? 0 : froms[steps - 1] + 1;
        }

        int add(long from, int permille) {
            froms[steps] = from;
            permilles[steps] = permille;
            steps++;
            return steps;
        }

        int clear() {
            int before = steps;
            steps = 0;
            return before;
        }

        long thousandfoldOf(long money) {
            long sum = 0;
            for (int i = 0; i < steps; i++) {
                long end = i + 1 < steps ? Math.min(money, froms[i + 1]) : money;
                sum += Math.max(0, end - froms[i]) * permilles[i];
            }
            return sum;
        }

        /** No step takes more than all, so that more money never leaves less. */
        long leastLeaving(long money) {
            if (!isLeaving(MOST_MONEY, money)) {
                return NONE;
            }
            long least = 0;
            long greatest = MOST_MONEY;
            for (int turn = 0; turn < MOST_TURNS && least < greatest; turn++) {
                long middle = (least + greatest) / 2;
                if (isLeaving(middle, money)) {
                    greatest = middle;
                } else {
                    least = middle + 1;
                }
            }
            return least;
        }

        private boolean isLeaving(long whole, long money) {
            return whole * MOST_PERMILLE - thousandfoldOf(whole) >= money * MOST_PERMILLE;
        }
    }
}
