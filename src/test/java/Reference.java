import java.util.ArrayList;
import java.util.List;
import java.util.NoSuchElementException;

/** The document in its own words, by slow and plain means of the Java library, to compare the house with. */
final class Reference {
    int mode = 6;
    long[] row = new long[41];
    long lent;
    int periods = 0;
    Integer[] rates;
    long[] earlies;
    boolean[] holidays;
    List<long[]> table;
    List<Integer> lives = new ArrayList<>();
    List<Integer> weights = new ArrayList<>();
    List<long[]> steps = new ArrayList<>();

    private static void range(boolean holds) {
        if (!holds) {
            throw new IllegalArgumentException();
        }
    }

    private static void in(long value, long least, long greatest) {
        range(value >= least && value <= greatest);
    }

    private static void state(boolean holds) {
        if (!holds) {
            throw new IllegalStateException();
        }
    }

    private static void element(boolean holds) {
        if (!holds) {
            throw new NoSuchElementException();
        }
    }

    private static Ratio rate(int points) {
        return Ratio.of(100000 + points, 100000);
    }

    int setMode(int to) {
        in(to, 0, 7);
        int before = mode;
        mode = to;
        return before;
    }

    int mode() {
        return mode;
    }

    long round(long over, long under, int digits) {
        in(over, -1000000000000L, 1000000000000L);
        in(under, 1, 1000000000000L);
        in(digits, 0, 6);
        return Ratio.of(over, under).times(Ratio.of(10).power(digits)).rounded(mode);
    }

    long pay(int period, long amount) {
        in(period, 0, 40);
        in(amount, -1000000000, 1000000000);
        state(Math.abs(row[period] + amount) <= 1000000000);
        return row[period] += amount;
    }

    int paying() {
        int n = 0;
        for (long a : row) {
            if (a != 0) {
                n++;
            }
        }
        return n;
    }

    int payMany(int from, int many, long amount, long step) {
        in(from, 0, 40);
        in(many, 1, 41);
        in(amount, -1000000000, 1000000000);
        in(step, -1000000, 1000000);
        range(from + many <= 41);
        long[] then = row.clone();
        long next = amount;
        for (int i = from; i < from + many; i++) {
            then[i] += next;
            next += step;
            state(Math.abs(then[i]) <= 1000000000);
        }
        row = then;
        return paying();
    }

    int clearRow() {
        int n = paying();
        row = new long[41];
        return n;
    }

    long amount(int period) {
        in(period, 0, 40);
        return row[period];
    }

    private Ratio worthOf(int period, int points) {
        Ratio sum = Ratio.ZERO;
        for (int i = 0; i <= 40; i++) {
            if (row[i] != 0) {
                sum = sum.plus(Ratio.of(row[i]).times(rate(points).power(period - i)));
            }
        }
        return sum;
    }

    long worth(int period, int points) {
        in(period, 0, 40);
        in(points, 0, 20000);
        long worth = worthOf(period, points).rounded(mode);
        state(Math.abs(worth) <= 1000000000000000000L);
        return worth;
    }

    int signAt(int points) {
        in(points, 0, 20000);
        return worthOf(20, points).sign();
    }

    int changes() {
        StringBuilder signs = new StringBuilder();
        for (long a : row) {
            signs.append(a > 0 ? "+" : a < 0 ? "-" : "");
        }
        int n = 0;
        for (int i = 1; i < signs.length(); i++) {
            n += signs.charAt(i) != signs.charAt(i - 1) ? 1 : 0;
        }
        return n;
    }

    private boolean isYield(int points, int first) {
        int sign = worthOf(0, points).sign();
        return sign == 0 || sign == first;
    }

    int rowYield() {
        return rowYield(false);
    }

    /** All rates are tried where isSlow; else it is halved by the rates, and some lesser rates are tried. */
    int rowYield(boolean isSlow) {
        state(changes() == 1);
        int first = 0;
        for (int i = 40; i >= 0; i--) {
            first = row[i] != 0 ? Long.signum(row[i]) : first;
        }
        int low = 0;
        int high = 20001;
        while (!isSlow && low < high) {
            int middle = (low + high) / 2;
            if (isYield(middle, first)) {
                high = middle;
            } else {
                low = middle + 1;
            }
        }
        int found = isSlow ? 20001 : low;
        for (int points = 0; points < found; points += isSlow ? 1 : 997) {
            if (isYield(points, first)) {
                found = points;
            }
        }
        return found > 20000 ? -1 : found;
    }

    private long instalment(long left, int points, int many) {
        Ratio unit = Ratio.ZERO;
        for (int k = 1; k <= many; k++) {
            unit = unit.plus(rate(points).power(-k));
        }
        return Ratio.of(left).by(unit).rounded(mode);
    }

    private List<long[]> tableOf(long money, int count, Integer[] rateOf, boolean[] isFree, long[] early) {
        List<long[]> rows = new ArrayList<>();
        long left = money;
        int points = 0;
        long instalment = 0;
        for (int p = 1; p <= count; p++) {
            if (rateOf[p] != null) {
                points = rateOf[p];
                instalment = instalment(left, points, count - p + 1);
            }
            long interest = Ratio.of(left).times(Ratio.of(points, 100000)).rounded(mode);
            long paid = 0;
            if (!isFree[p]) {
                if (p == count || left + interest <= instalment) {
                    paid = left + interest;
                } else {
                    paid = instalment;
                }
                paid += Math.min(early[p], left + interest - paid);
            }
            long repaid = paid - interest;
            rows.add(new long[] {left, interest, paid, repaid, left - repaid, points, instalment});
            left -= repaid;
            if (left == 0) {
                break;
            }
        }
        return rows;
    }

    long lend(long money, int points, int many) {
        in(money, 1, 1000000000);
        in(points, 0, 20000);
        in(many, 1, 60);
        Integer[] newRates = new Integer[61];
        newRates[1] = points;
        List<long[]> then = tableOf(money, many, newRates, new boolean[61], new long[61]);
        lent = money;
        periods = many;
        rates = newRates;
        holidays = new boolean[61];
        earlies = new long[61];
        table = then;
        return table.get(0)[6];
    }

    boolean holiday(int period) {
        state(periods > 0);
        in(period, 1, periods - 1);
        boolean[] then = holidays.clone();
        then[period] = !then[period];
        table = tableOf(lent, periods, rates, then, earlies);
        holidays = then;
        return holidays[period];
    }

    int change(int period, int points) {
        state(periods > 0);
        in(period, 2, periods);
        in(points, 0, 20000);
        Integer[] then = rates.clone();
        then[period] = points;
        table = tableOf(lent, periods, then, holidays, earlies);
        rates = then;
        return table.size();
    }

    int early(int period, long money) {
        state(periods > 0);
        in(period, 1, periods);
        in(money, 0, 1000000000);
        long[] then = earlies.clone();
        then[period] = money;
        table = tableOf(lent, periods, rates, holidays, then);
        earlies = then;
        return table.size();
    }

    int rows() {
        state(periods > 0);
        return table.size();
    }

    long rowOf(int period, int what) {
        state(periods > 0);
        in(what, 0, 6);
        element(period >= 1 && period <= table.size());
        return table.get(period - 1)[what];
    }

    private long column(int what) {
        long sum = 0;
        for (long[] line : table) {
            sum += line[what];
        }
        return sum;
    }

    long total(int what) {
        state(periods > 0);
        in(what, 1, 3);
        return column(what);
    }

    private static Ratio bond(long coupon, long face, int many, int points) {
        Ratio sum = Ratio.of(face).times(rate(points).power(-many));
        for (int k = 1; k <= many; k++) {
            sum = sum.plus(Ratio.of(coupon).times(rate(points).power(-k)));
        }
        return sum;
    }

    long price(long coupon, long face, int many, int points) {
        in(coupon, 0, 1000000000);
        in(face, 0, 1000000000);
        in(many, 1, 40);
        in(points, 0, 20000);
        return bond(coupon, face, many, points).rounded(mode);
    }

    int bondYield(long coupon, long face, int many, long money) {
        return bondYield(coupon, face, many, money, false);
    }

    int bondYield(long coupon, long face, int many, long money, boolean isSlow) {
        in(coupon, 0, 1000000000);
        in(face, 0, 1000000000);
        in(many, 1, 40);
        in(money, 0, 1000000000000L);
        int low = 0;
        int high = 20001;
        while (!isSlow && low < high) {
            int middle = (low + high) / 2;
            if (bond(coupon, face, many, middle).compareTo(Ratio.of(money)) <= 0) {
                high = middle;
            } else {
                low = middle + 1;
            }
        }
        int found = isSlow ? 20001 : low;
        for (int points = 0; points < found; points += isSlow ? 1 : 997) {
            if (bond(coupon, face, many, points).compareTo(Ratio.of(money)) <= 0) {
                found = points;
            }
        }
        return found > 20000 ? -1 : found;
    }

    long accrued(long coupon, int days, int length) {
        in(coupon, 0, 1000000000);
        in(length, 1, 366);
        in(days, 0, length);
        return Ratio.of(coupon).times(Ratio.of(days, length)).rounded(mode);
    }

    int live(int left) {
        in(left, 1, lives.isEmpty() ? 1000000 : lives.get(lives.size() - 1));
        state(lives.size() < 30);
        lives.add(left);
        return lives.size();
    }

    int clearLives() {
        int n = lives.size();
        lives.clear();
        return n;
    }

    private long left(int age) {
        return age < lives.size() ? lives.get(age) : 0;
    }

    private long dying(int age) {
        return left(age) - left(age + 1);
    }

    private void insured(int age, long money, int points) {
        in(money, 0, 1000000000);
        in(points, 0, 20000);
        element(age >= 0 && age < lives.size());
    }

    private Ratio life(int age, int points) {
        Ratio sum = Ratio.ZERO;
        for (int k = 0; age + k < lives.size(); k++) {
            sum = sum.plus(Ratio.of(left(age + k), left(age)).times(rate(points).power(-k)));
        }
        return sum;
    }

    private Ratio death(int age, int points) {
        Ratio sum = Ratio.ZERO;
        for (int k = 0; age + k < lives.size(); k++) {
            sum = sum.plus(Ratio.of(dying(age + k), left(age)).times(rate(points).power(-k - 1)));
        }
        return sum;
    }

    long lifeWorth(int age, long money, int points) {
        insured(age, money, points);
        return Ratio.of(money).times(life(age, points)).rounded(mode);
    }

    long deathWorth(int age, long money, int points) {
        insured(age, money, points);
        return Ratio.of(money).times(death(age, points)).rounded(mode);
    }

    private Ratio yearly(int age, long money, int points) {
        return Ratio.of(money).times(death(age, points)).by(life(age, points));
    }

    long premium(int age, long money, int points) {
        insured(age, money, points);
        return yearly(age, money, points).rounded(mode);
    }

    long reserve(int age, int years, long money, int points, boolean isBack) {
        range(years >= 0);
        insured(age, money, points);
        element((long) age + years < lives.size());
        Ratio yearly = yearly(age, money, points);
        int then = age + years;
        if (!isBack) {
            return Ratio.of(money).times(death(then, points)).minus(yearly.times(life(then, points))).rounded(mode);
        }
        Ratio sum = Ratio.ZERO;
        for (int k = 0; k < years; k++) {
            sum = sum.plus(yearly.times(Ratio.of(left(age + k))).times(rate(points).power(years - k)));
            sum = sum.minus(Ratio.of(money).times(Ratio.of(dying(age + k))).times(rate(points).power(years - k - 1)));
        }
        return sum.by(Ratio.of(left(then))).rounded(mode);
    }

    int weigh(int weight) {
        in(weight, 0, 1000000);
        state(weights.size() < 12);
        weights.add(weight);
        return weights.size();
    }

    int clearWeights() {
        int n = weights.size();
        weights.clear();
        return n;
    }

    long part(long money, int which) {
        in(money, 0, 1000000000000L);
        element(which >= 0 && which < weights.size());
        long all = 0;
        for (int weight : weights) {
            all += weight;
        }
        element(all > 0);
        int n = weights.size();
        long[] parts = new long[n];
        Ratio[] lost = new Ratio[n];
        long spare = money;
        for (int i = 0; i < n; i++) {
            Ratio share = Ratio.of(money).times(Ratio.of(weights.get(i), all));
            parts[i] = share.rounded(3);
            lost[i] = share.minus(Ratio.of(parts[i]));
            spare -= parts[i];
        }
        for (; spare > 0; spare--) {
            int best = -1;
            for (int i = 0; i < n; i++) {
                if (lost[i] != null && (best < 0 || lost[i].compareTo(lost[best]) > 0)) {
                    best = i;
                }
            }
            parts[best]++;
            lost[best] = null;
        }
        return parts[which];
    }

    int step(long from, int permille) {
        in(from, steps.isEmpty() ? 0 : steps.get(steps.size() - 1)[0] + 1, 1000000000);
        in(permille, 0, 1000);
        state(steps.size() < 8);
        steps.add(new long[] {from, permille});
        return steps.size();
    }

    int clearSteps() {
        int n = steps.size();
        steps.clear();
        return n;
    }

    private Ratio taxOf(long money) {
        Ratio sum = Ratio.ZERO;
        for (int i = 0; i < steps.size(); i++) {
            long from = steps.get(i)[0];
            long to = i + 1 < steps.size() ? steps.get(i + 1)[0] : Long.MAX_VALUE;
            if (money > from) {
                sum = sum.plus(Ratio.of(Math.min(money, to) - from).times(Ratio.of(steps.get(i)[1], 1000)));
            }
        }
        return sum;
    }

    long tax(long money) {
        in(money, 0, 1000000000000L);
        return taxOf(money).rounded(mode);
    }

    private boolean leaves(long whole, long money) {
        return Ratio.of(whole).minus(taxOf(whole)).compareTo(Ratio.of(money)) >= 0;
    }

    long untaxed(long money) {
        in(money, 0, 1000000000);
        long low = 0;
        long high = 1000000000001L;
        while (low < high) {
            long middle = (low + high) / 2;
            if (leaves(middle, money)) {
                high = middle;
            } else {
                low = middle + 1;
            }
        }
        return low > 1000000000000L ? -1 : low;
    }

    int errors(int points) {
        in(points, 0, 20000);
        return 0;
    }

    double meanAmount() {
        long sum = 0;
        for (long a : row) {
            sum += a;
        }
        return paying() == 0 ? 0.0 : (double) sum / (double) paying();
    }

    float interestShare() {
        return periods == 0 ? 0.0f : (float) column(1) / (float) column(2);
    }
}
