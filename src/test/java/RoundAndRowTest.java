/** Promises 1 to 12 and 37: a new object, ways to round, the row of payments. */
public final class RoundAndRowTest {
    private static final Check CHECK = new Check();
    private static final long BILLION = 1000000000L;
    private static final long TRILLION = 1000000000000L;

    public static void main(String[] args) {
        newObject();
        modes();
        roundsEachWay();
        roundsAtTheEdges();
        pays();
        paysMany();
        clearsRow();
        worths();
        worthsByExact();
        signs();
        countsChanges();
        yields();
        means();
        CHECK.end();
    }

    private static void newObject() {
        AnnuityHouse house = new AnnuityHouse();
        CHECK.due(AnnuityHouse.HALF_EVEN, "1: mode()", () -> house.mode());
        for (int p = 0; p <= 40; p++) {
            int period = p;
            CHECK.due(0L, "1: amount(" + p + ")", () -> house.amount(period));
        }
        CHECK.state("1: rows()", () -> house.rows());
        CHECK.due(0, "1: clearRow()", () -> house.clearRow());
        CHECK.due(0, "1: clearLives()", () -> house.clearLives());
        CHECK.due(0, "1: clearWeights()", () -> house.clearWeights());
        CHECK.due(0, "1: clearSteps()", () -> house.clearSteps());
        AnnuityHouse other = new AnnuityHouse();
        other.setMode(AnnuityHouse.UP);
        other.pay(0, 5);
        CHECK.due(AnnuityHouse.HALF_EVEN, "1: houses share no mode", () -> house.mode());
        CHECK.due(0L, "1: houses share no row", () -> house.amount(0));
    }

    private static void modes() {
        AnnuityHouse house = new AnnuityHouse();
        int before = AnnuityHouse.HALF_EVEN;
        for (int m = AnnuityHouse.UP; m <= AnnuityHouse.EXACT; m++) {
            int mode = m;
            CHECK.due(before, "2: setMode(" + m + ")", () -> house.setMode(mode));
            CHECK.due(mode, "3: mode()", () -> house.mode());
            before = m;
        }
        for (int wrong : new int[] {-1, 8, Integer.MIN_VALUE, Integer.MAX_VALUE}) {
            CHECK.range("2: setMode(" + wrong + ")", () -> house.setMode(wrong));
            CHECK.due(AnnuityHouse.EXACT, "2: a refused mode is not set", () -> house.mode());
        }
    }

    private static void roundsEachWay() {
        // Tenths: -25, -16, -15, -14, -10, 0, 10, 14, 15, 16, 25; EXACT stands apart.
        long[] tenths = {-25, -16, -15, -14, -10, 0, 10, 14, 15, 16, 25};
        long[][] due = {
            {-3, -2, -2, -2, -1, 0, 1, 2, 2, 2, 3},
            {-2, -1, -1, -1, -1, 0, 1, 1, 1, 1, 2},
            {-2, -1, -1, -1, -1, 0, 1, 2, 2, 2, 3},
            {-3, -2, -2, -2, -1, 0, 1, 1, 1, 1, 2},
            {-3, -2, -2, -1, -1, 0, 1, 1, 2, 2, 3},
            {-2, -2, -1, -1, -1, 0, 1, 1, 1, 2, 2},
            {-2, -2, -2, -1, -1, 0, 1, 1, 2, 2, 2}};
        AnnuityHouse house = new AnnuityHouse();
        for (int mode = 0; mode < due.length; mode++) {
            house.setMode(mode);
            for (int i = 0; i < tenths.length; i++) {
                long over = tenths[i];
                CHECK.due(due[mode][i], "4: round(" + over + ", 10, 0) by " + mode, () -> house.round(over, 10, 0));
                CHECK.due(over * 10, "4: round(" + over + ", 10, 2) by " + mode, () -> house.round(over, 10, 2));
            }
        }
        house.setMode(AnnuityHouse.EXACT);
        for (long over : tenths) {
            if (over % 10 == 0) {
                CHECK.due(over / 10, "4: round(" + over + ", 10, 0) by EXACT", () -> house.round(over, 10, 0));
            } else {
                CHECK.state("4: round(" + over + ", 10, 0) by EXACT", () -> house.round(over, 10, 0));
            }
            CHECK.due(over, "4: round(" + over + ", 10, 1) by EXACT", () -> house.round(over, 10, 1));
        }
    }

    private static void roundsAtTheEdges() {
        AnnuityHouse house = new AnnuityHouse();
        CHECK.due(1000000000000000000L, "4: round(10^12, 1, 6)", () -> house.round(TRILLION, 1, 6));
        CHECK.due(-1000000000000000000L, "4: round(-10^12, 1, 6)", () -> house.round(-TRILLION, 1, 6));
        CHECK.due(1000000L, "4: round(10^12, 10^12, 6)", () -> house.round(TRILLION, TRILLION, 6));
        CHECK.due(1L, "4: round(999999999999, 10^12, 0)", () -> house.round(TRILLION - 1, TRILLION, 0));
        CHECK.due(333333L, "4: round(1, 3, 6)", () -> house.round(1, 3, 6));
        CHECK.due(0L, "4: round(1, 10^12, 6)", () -> house.round(1, TRILLION, 6));
        CHECK.due(0L, "4: round(0, 5, 3)", () -> house.round(0, 5, 3));
        CHECK.range("4: over too great", () -> house.round(TRILLION + 1, 1, 0));
        CHECK.range("4: over too small", () -> house.round(-TRILLION - 1, 1, 0));
        CHECK.range("4: over Long.MIN", () -> house.round(Long.MIN_VALUE, 1, 0));
        CHECK.range("4: under 0", () -> house.round(1, 0, 0));
        CHECK.range("4: under below 0", () -> house.round(1, -3, 0));
        CHECK.range("4: under too great", () -> house.round(1, TRILLION + 1, 0));
        CHECK.range("4: digits -1", () -> house.round(1, 1, -1));
        CHECK.range("4: digits 7", () -> house.round(1, 1, 7));
        house.setMode(AnnuityHouse.EXACT);
        CHECK.range("4: out of range goes ahead of EXACT", () -> house.round(1, 3, 7));
    }

    private static void pays() {
        AnnuityHouse house = new AnnuityHouse();
        CHECK.due(7L, "5: pay(0, 7)", () -> house.pay(0, 7));
        CHECK.due(4L, "5: pay(0, -3)", () -> house.pay(0, -3));
        CHECK.due(-9L, "5: pay(40, -9)", () -> house.pay(40, -9));
        CHECK.due(4L, "8: amount(0)", () -> house.amount(0));
        CHECK.due(-9L, "8: amount(40)", () -> house.amount(40));
        CHECK.due(BILLION, "5: the greatest amount", () -> house.pay(1, BILLION));
        CHECK.due(-BILLION, "5: the least amount", () -> house.pay(2, -BILLION));
        CHECK.state("5: above the greatest", () -> house.pay(1, 1));
        CHECK.state("5: far above the greatest", () -> house.pay(1, BILLION));
        CHECK.state("5: below the least", () -> house.pay(2, -1));
        CHECK.due(BILLION, "5: a refused amount is not added", () -> house.amount(1));
        CHECK.due(-BILLION, "5: a refused amount is not taken", () -> house.amount(2));
        CHECK.due(0L, "5: back to nothing", () -> house.pay(1, -BILLION));
        CHECK.range("5: pay(-1, 1)", () -> house.pay(-1, 1));
        CHECK.range("5: pay(41, 1)", () -> house.pay(41, 1));
        CHECK.range("5: pay(3, 10^9 + 1)", () -> house.pay(3, BILLION + 1));
        CHECK.range("5: pay(3, -10^9 - 1)", () -> house.pay(3, -BILLION - 1));
        CHECK.range("5: the parameter goes ahead of the sum", () -> house.pay(2, -BILLION - 1));
        for (int wrong : new int[] {-1, 41, Integer.MIN_VALUE, Integer.MAX_VALUE}) {
            CHECK.range("8: amount(" + wrong + ")", () -> house.amount(wrong));
        }
    }

    private static void paysMany() {
        AnnuityHouse house = new AnnuityHouse();
        CHECK.due(3, "6: payMany(5, 3, 10, 5)", () -> house.payMany(5, 3, 10, 5));
        CHECK.due(10L, "6: amount(5)", () -> house.amount(5));
        CHECK.due(15L, "6: amount(6)", () -> house.amount(6));
        CHECK.due(20L, "6: amount(7)", () -> house.amount(7));
        CHECK.due(0L, "6: amount(8)", () -> house.amount(8));
        CHECK.due(3, "6: counts the whole row, and no period that has 0 then", () -> house.payMany(6, 3, -15, 0));
        CHECK.due(41, "6: the whole row", () -> house.payMany(0, 41, 100, 1));
        CHECK.due(140L, "6: amount(40)", () -> house.amount(40));
        CHECK.range("6: from -1", () -> house.payMany(-1, 1, 1, 1));
        CHECK.range("6: from 41", () -> house.payMany(41, 1, 1, 1));
        CHECK.range("6: many 0", () -> house.payMany(0, 0, 1, 1));
        CHECK.range("6: many 42", () -> house.payMany(0, 42, 1, 1));
        CHECK.range("6: many Integer.MAX", () -> house.payMany(40, Integer.MAX_VALUE, 1, 1));
        CHECK.range("6: the last period above 40", () -> house.payMany(1, 41, 1, 1));
        CHECK.range("6: amount too great", () -> house.payMany(0, 1, BILLION + 1, 0));
        CHECK.range("6: amount too small", () -> house.payMany(0, 1, -BILLION - 1, 0));
        CHECK.range("6: step too great", () -> house.payMany(0, 1, 1, 1000001));
        CHECK.range("6: step too small", () -> house.payMany(0, 1, 1, -1000001));
        CHECK.due(140L, "6: refused, nothing is added", () -> house.amount(40));

        AnnuityHouse full = new AnnuityHouse();
        full.pay(2, -1000000);
        CHECK.state("6: a later period would be too great", () -> full.payMany(0, 4, BILLION, 1));
        CHECK.due(0L, "6: refused, the first one has nothing", () -> full.amount(0));
        CHECK.range("6: the last period goes ahead", () -> full.payMany(38, 4, BILLION, 1));
        CHECK.due(1, "6: what a period has makes up for what is added", () -> full.payMany(2, 1, BILLION, 1000000));
        CHECK.due(0, "6: and to nothing", () -> full.payMany(2, 1, -999000000, 0));
        full.pay(4, -1000000);
        full.pay(3, -1000000);
        CHECK.due(2, "6: what is added may be above 10^9", () -> full.payMany(3, 2, BILLION, 1000000));
        CHECK.due(BILLION, "6: amount(4)", () -> full.amount(4));
        full.clearRow();
        CHECK.state("6: below the least", () -> full.payMany(0, 2, -BILLION, -1));
        CHECK.due(0, "6: refused, all are 0", () -> full.clearRow());
    }

    private static void clearsRow() {
        AnnuityHouse house = new AnnuityHouse();
        house.payMany(0, 41, -20, 1);
        CHECK.due(40, "7: clearRow()", () -> house.clearRow());
        CHECK.due(0L, "7: amount(0)", () -> house.amount(0));
        CHECK.due(0L, "7: amount(40)", () -> house.amount(40));
        CHECK.due(0, "7: clearRow() again", () -> house.clearRow());
    }

    private static void worths() {
        AnnuityHouse house = new AnnuityHouse();
        CHECK.due(0L, "9: an empty row", () -> house.worth(40, 20000));
        house.pay(1, 1000);
        CHECK.due(1000L, "9: at its own period", () -> house.worth(1, 5000));
        CHECK.due(1050L, "9: carried on", () -> house.worth(2, 5000));
        CHECK.due(952L, "9: carried back, 952.38", () -> house.worth(0, 5000));
        house.setMode(AnnuityHouse.UP);
        CHECK.due(953L, "9: carried back, rounded UP", () -> house.worth(0, 5000));
        CHECK.due(1001L, "9: one point", () -> house.worth(2, 1));
        house.pay(1, -2000);
        house.setMode(AnnuityHouse.FLOOR);
        CHECK.due(-953L, "9: below 0 by FLOOR", () -> house.worth(0, 5000));
        house.setMode(AnnuityHouse.CEILING);
        CHECK.due(-952L, "9: below 0 by CEILING", () -> house.worth(0, 5000));
        house.clearRow();
        house.setMode(AnnuityHouse.DOWN);
        house.payMany(0, 41, BILLION, 0);
        CHECK.due(8813629407814L, "9: the greatest worth", () -> house.worth(40, 20000));
        CHECK.due(41 * BILLION, "9: at no rate", () -> house.worth(17, 0));
        CHECK.range("9: period -1", () -> house.worth(-1, 0));
        CHECK.range("9: period 41", () -> house.worth(41, 0));
        CHECK.range("9: points -1", () -> house.worth(0, -1));
        CHECK.range("9: points 20001", () -> house.worth(0, 20001));
    }

    private static void worthsByExact() {
        AnnuityHouse house = new AnnuityHouse();
        house.setMode(AnnuityHouse.EXACT);
        CHECK.due(0L, "9: nothing by EXACT", () -> house.worth(7, 19999));
        house.pay(0, -1000);
        house.pay(1, 1100);
        CHECK.due(0L, "9: worth nothing by EXACT", () -> house.worth(40, 10000));
        CHECK.due(50L, "9: a whole number by EXACT", () -> house.worth(1, 5000));
        CHECK.state("9: no whole number by EXACT", () -> house.worth(0, 5000));
        CHECK.state("9: no whole number by EXACT, carried on", () -> house.worth(3, 4999));
        CHECK.range("9: out of range goes ahead of EXACT", () -> house.worth(41, 5000));
    }

    private static void signs() {
        AnnuityHouse house = new AnnuityHouse();
        CHECK.due(0, "10: an empty row", () -> house.signAt(20000));
        house.pay(3, -100000);
        house.pay(4, 100001);
        CHECK.due(1, "10: signAt(0)", () -> house.signAt(0));
        CHECK.due(0, "10: signAt(1)", () -> house.signAt(1));
        CHECK.due(-1, "10: signAt(2)", () -> house.signAt(2));
        CHECK.due(-1, "10: signAt(20000)", () -> house.signAt(20000));
        CHECK.range("10: signAt(-1)", () -> house.signAt(-1));
        CHECK.range("10: signAt(20001)", () -> house.signAt(20001));

        // One cent at the last of 41 periods decides: 10^5 carried on exactly, less one cent and more.
        AnnuityHouse fine = new AnnuityHouse();
        fine.pay(0, -1);
        fine.pay(40, 1469);
        CHECK.due(-1, "10: 1.2^40 is above 1469", () -> fine.signAt(20000));
        fine.pay(40, 1);
        CHECK.due(1, "10: 1.2^40 is below 1470", () -> fine.signAt(20000));
    }

    private static void countsChanges() {
        AnnuityHouse house = new AnnuityHouse();
        CHECK.due(0, "11: an empty row", () -> house.changes());
        house.pay(40, -1);
        CHECK.due(0, "11: one amount", () -> house.changes());
        house.pay(0, -1);
        CHECK.due(0, "11: the same signs", () -> house.changes());
        house.pay(20, 1);
        CHECK.due(2, "11: - 0 + 0 -", () -> house.changes());
        house.pay(39, -1);
        house.pay(1, 1);
        CHECK.due(2, "11: - + + - -", () -> house.changes());
        house.clearRow();
        for (int p = 0; p <= 40; p++) {
            house.pay(p, p % 2 == 0 ? 1 : -1);
        }
        CHECK.due(40, "11: each one changes", () -> house.changes());
    }

    private static void yields() {
        AnnuityHouse house = new AnnuityHouse();
        CHECK.state("12: an empty row", () -> house.rowYield());
        house.pay(0, -100000);
        CHECK.state("12: no change", () -> house.rowYield());
        house.pay(1, 100001);
        CHECK.due(1, "12: exactly 1 point", () -> house.rowYield());
        house.pay(1, -1);
        CHECK.due(0, "12: exactly 0 points", () -> house.rowYield());
        house.pay(1, -1);
        CHECK.due(0, "12: has the first sign at 0 already", () -> house.rowYield());
        house.pay(1, 20001);
        CHECK.due(20000, "12: exactly 20000 points", () -> house.rowYield());
        house.pay(1, 1);
        CHECK.due(AnnuityHouse.NONE, "12: just above 20000 points", () -> house.rowYield());
        house.pay(2, -1);
        CHECK.state("12: two changes", () -> house.rowYield());
        house.clearRow();
        house.pay(0, 100);
        house.pay(1, -101);
        CHECK.due(1000, "12: begins above 0", () -> house.rowYield());
        house.pay(0, 2);
        CHECK.due(0, "12: begins above 0, worth more", () -> house.rowYield());
        house.clearRow();
        house.pay(39, -3);
        house.pay(40, 3);
        house.pay(38, -1);
        house.pay(40, 1);
        CHECK.due(0, "12: late amounts", () -> house.rowYield());
        house.clearRow();
        house.pay(0, -30000);
        house.payMany(1, 4, 10000, 0);
        CHECK.due(12590, "12: 4 payments, 12.5898 %", () -> house.rowYield());
    }

    private static void means() {
        AnnuityHouse house = new AnnuityHouse();
        CHECK.due(0.0, "37: an empty row", () -> house.meanAmount());
        house.pay(0, 1);
        CHECK.due(1.0, "37: one amount", () -> house.meanAmount());
        house.pay(40, 2);
        CHECK.due(1.5, "37: two amounts, the others do not count", () -> house.meanAmount());
        house.pay(7, -13);
        CHECK.due(-10.0 / 3.0, "37: below 0", () -> house.meanAmount());
        house.pay(8, 10);
        CHECK.due(0.0, "37: amounts that make up for one another", () -> house.meanAmount());
    }
}
