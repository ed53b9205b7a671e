/** Edges of promises 20 to 22: bonds. */
final class BondEdges {
    private BondEdges() {
    }

    static void test(Edges edges) {
        prices(edges);
        roundsPrices(edges);
        findsYields(edges);
        refusesYields(edges);
        accrues(edges);
        refusesToAccrue(edges);
    }

    private static void prices(Edges edges) {
        edges.of(20, "Returns what a bond is worth", """
            price(12, 108, 1, 20000) : 100; price(144, 0, 2, 20000) : 220; price(0, 144, 2, 20000) : 100; price(144, 144, 2, 20000) : 320
            price(10, 100, 3, 0) : 130; price(10, 100, 40, 10000) : 100; price(10^9, 10^9, 40, 20000) : 4997278489
            """);
        edges.of(20, "`coupon`", """
            price(0, 120, 1, 20000) : 100; price(1, 0, 1, 0) : 1; price(10^9, 0, 1, 0) : 10^9; price(10^9, 0, 40, 0) : 40000000000
            price(0, 0, 40, 0) : 0
            """);
        edges.of(20, "`face`", """
            price(120, 0, 1, 20000) : 100; price(0, 1, 1, 0) : 1; price(0, 10^9, 1, 0) : 10^9; price(0, 10^9, 40, 0) : 10^9
            price(0, 0, 1, 20000) : 0
            """);
        edges.of(20, "`periods`", """
            price(1, 1, 1, 0) : 2; price(1, 1, 2, 0) : 3; price(1, 1, 39, 0) : 40; price(1, 1, 40, 0) : 41
            price(10^9, 10^9, 40, 1) : 40991401230
            """);
        edges.of(20, "`points`", """
            price(0, 10^9, 1, 0) : 10^9; price(0, 100001, 1, 1) : 100000; price(0, 119999, 1, 19999) : 100000
            price(0, 120000, 1, 20000) : 100000
            """);
        edges.of(20, "Throws `IllegalArgumentException`", """
            price(-1, 5, 1, 0) : IllegalArgument; price(10^9+1, 5, 1, 0) : IllegalArgument; price(long.MAX, 5, 1, 0) : IllegalArgument
            price(long.MIN, 5, 1, 0) : IllegalArgument; price(5, -1, 1, 0) : IllegalArgument; price(5, 10^9+1, 1, 0) : IllegalArgument
            price(5, long.MAX, 1, 0) : IllegalArgument; price(5, long.MIN, 1, 0) : IllegalArgument; price(5, 5, 0, 0) : IllegalArgument
            price(5, 5, -1, 0) : IllegalArgument; price(5, 5, 41, 0) : IllegalArgument; price(5, 5, int.MAX, 0) : IllegalArgument
            price(5, 5, int.MIN, 0) : IllegalArgument; price(5, 5, 1, -1) : IllegalArgument; price(5, 5, 1, 20001) : IllegalArgument
            price(5, 5, 1, int.MAX) : IllegalArgument; price(5, 5, 1, int.MIN) : IllegalArgument
            """);
        edges.of(20, "Throws `IllegalStateException`", """
            setMode(EXACT); price(0, 1, 1, 1) : IllegalState; price(0, 120, 1, 20000) : 100; price(0, 121, 1, 20000) : IllegalState
            price(10^9, 10^9, 40, 0) : 41000000000; price(10^9, 10^9, 40, 20000) : IllegalState; price(0, 0, 40, 19999) : 0
            price(20, 100, 40, 20000) : 100
            price(21, 100, 40, 20000) : IllegalState; price(-1, 1, 1, 1) : IllegalArgument; price(1, 1, 41, 1) : IllegalArgument
            """);
    }

    private static void roundsPrices(Edges edges) {
        edges.of(20, "Returns this, rounded", """
            each price(0, 3, 1, 20000) : 3 2 3 2 3 2 2 IllegalState; each price(9, 0, 1, 20000) : 8 7 8 7 8 7 8 IllegalState
            each price(5, 107, 1, 20000) : 94 93 94 93 93 93 93 IllegalState
            each price(10, 100, 2, 10000) : 100 100 100 100 100 100 100 100
            """);
        edges.of(20, "Returns this, rounded", """
            each price(10^9, 10^9, 40, 20000) : 4997278489 4997278488 4997278489 4997278488 4997278489 4997278489 4997278489 IllegalState
            each price(0, 1, 40, 20000) : 1 0 1 0 0 0 0 IllegalState
            each price(0, 10^9, 40, 20000) : 680378 680377 680378 680377 680378 680378 680378 IllegalState
            """);
    }

    private static void findsYields(Edges edges) {
        edges.of(21, "Finds the least rate", """
            bondYield(10, 100, 2, 100) : 10000; bondYield(10, 100, 2, 99) : 10581; bondYield(10, 100, 40, 100) : 10000
            bondYield(0, 110, 1, 100) : 10000
            bondYield(0, 1100001, 1, 1000000) : 10001; bondYield(0, 1099999, 1, 1000000) : 10000; bondYield(0, 1100010, 1, 1000000) : 10001
            bondYield(0, 1100011, 1, 1000000) : 10002; setMode(EXACT); bondYield(0, 1100001, 1, 1000000) : 10001; setMode(UP)
            bondYield(0, 1100010, 1, 1000000) : 10001
            """);
        edges.of(21, "`coupon`", """
            bondYield(0, 120, 1, 100) : 20000; bondYield(10^9, 0, 1, 833333334) : 20000; bondYield(10^9, 0, 1, 833333333) : NONE
            bondYield(10^9, 0, 1, 10^9) : 0
            """);
        edges.of(21, "`face`", """
            bondYield(120, 0, 1, 100) : 20000; bondYield(0, 10^9, 1, 10^9) : 0; bondYield(0, 10^9, 1, 10^9-1) : 1
            bondYield(0, 10^9, 40, 500000000) : 1748
            """);
        edges.of(21, "`periods`", """
            bondYield(1, 1, 1, 2) : 0; bondYield(1, 1, 40, 41) : 0; bondYield(10^9, 10^9, 40, 41000000000) : 0
            bondYield(10^9, 10^9, 40, 40999999999) : 1
            """);
        edges.of(21, "`money`", """
            bondYield(0, 0, 1, 0) : 0; bondYield(0, 0, 40, 0) : 0; bondYield(0, 1, 40, 0) : NONE; bondYield(1, 0, 1, 0) : NONE
            bondYield(0, 1, 1, 1) : 0
            bondYield(10^9, 10^9, 40, 10^12) : 0; bondYield(0, 1, 1, 10^12) : 0; bondYield(0, 0, 1, 10^12) : 0
            """);
        edges.of(21, "Returns the rate in points", """
            bondYield(0, 100000, 1, 100000) : 0; bondYield(0, 100001, 1, 100000) : 1; bondYield(0, 119999, 1, 100000) : 19999
            bondYield(0, 120000, 1, 100000) : 20000; bondYield(0, 120001, 1, 100000) : NONE; bondYield(0, 2, 1, 1) : NONE
            bondYield(10^9, 10^9, 40, 4997278489) : 20000; bondYield(10^9, 10^9, 40, 4997278488) : NONE; bondYield(0, 100000, 1, 100001) : 0
            """);
    }

    private static void refusesYields(Edges edges) {
        edges.of(21, "Throws `IllegalArgumentException`", """
            bondYield(-1, 5, 1, 9) : IllegalArgument; bondYield(10^9+1, 5, 1, 9) : IllegalArgument
            bondYield(long.MAX, 5, 1, 9) : IllegalArgument
            bondYield(long.MIN, 5, 1, 9) : IllegalArgument; bondYield(5, -1, 1, 9) : IllegalArgument
            bondYield(5, 10^9+1, 1, 9) : IllegalArgument
            bondYield(5, long.MAX, 1, 9) : IllegalArgument; bondYield(5, long.MIN, 1, 9) : IllegalArgument
            bondYield(5, 5, 0, 9) : IllegalArgument
            bondYield(5, 5, -1, 9) : IllegalArgument; bondYield(5, 5, 41, 9) : IllegalArgument
            bondYield(5, 5, int.MAX, 9) : IllegalArgument
            bondYield(5, 5, int.MIN, 9) : IllegalArgument; bondYield(5, 5, 1, -1) : IllegalArgument
            bondYield(5, 5, 1, 10^12+1) : IllegalArgument
            bondYield(5, 5, 1, long.MAX) : IllegalArgument; bondYield(5, 5, 1, long.MIN) : IllegalArgument
            """);
    }

    private static void accrues(Edges edges) {
        edges.of(22, "Returns the part of a coupon", """
            accrued(366, 1, 366) : 1; accrued(366, 91, 366) : 91; accrued(100, 15, 30) : 50; accrued(100, 20, 30) : 67
            """);
        edges.of(22, "`coupon`", """
            accrued(0, 1, 2) : 0; accrued(1, 1, 1) : 1; accrued(10^9, 1, 1) : 10^9; accrued(10^9, 366, 366) : 10^9
            accrued(10^9, 365, 366) : 997267760
            """);
        edges.of(22, "`days`", """
            accrued(366, 0, 366) : 0; accrued(366, 1, 366) : 1; accrued(366, 365, 366) : 365; accrued(366, 366, 366) : 366
            accrued(7, 0, 1) : 0; accrued(7, 1, 1) : 7
            """);
        edges.of(22, "`length`", "accrued(732, 1, 1) : 732; accrued(732, 1, 2) : 366; accrued(732, 1, 366) : 2; accrued(730, 1, 365) : 2");
        edges.of(22, "Returns the coupon times days", """
            each accrued(5, 1, 2) : 3 2 3 2 3 2 2 IllegalState; each accrued(7, 1, 2) : 4 3 4 3 4 3 4 IllegalState
            each accrued(1, 1, 3) : 1 0 1 0 0 0 0 IllegalState
            each accrued(1, 2, 3) : 1 0 1 0 1 1 1 IllegalState
            """);
        edges.of(22, "Returns the coupon times days", """
            each accrued(10^9, 365, 366) : 997267760 997267759 997267760 997267759 997267760 997267760 997267760 IllegalState
            each accrued(9, 2, 3) : 6 6 6 6 6 6 6 6
            """);
    }

    private static void refusesToAccrue(Edges edges) {
        edges.of(22, "Throws `IllegalArgumentException`", """
            accrued(-1, 1, 3) : IllegalArgument; accrued(10^9+1, 1, 3) : IllegalArgument; accrued(long.MAX, 1, 3) : IllegalArgument
            accrued(long.MIN, 1, 3) : IllegalArgument; accrued(5, -1, 3) : IllegalArgument; accrued(5, 4, 3) : IllegalArgument
            accrued(5, int.MAX, 3) : IllegalArgument; accrued(5, int.MIN, 3) : IllegalArgument; accrued(5, 0, 0) : IllegalArgument
            accrued(5, 1, 0) : IllegalArgument; accrued(5, 0, -1) : IllegalArgument; accrued(5, -1, -1) : IllegalArgument
            accrued(5, 1, 367) : IllegalArgument
            accrued(5, 367, 367) : IllegalArgument; accrued(5, 367, 366) : IllegalArgument; accrued(5, 1, int.MAX) : IllegalArgument
            accrued(5, int.MIN, int.MIN) : IllegalArgument; accrued(5, 2, 1) : IllegalArgument
            """);
        edges.of(22, "Throws `IllegalStateException`", """
            setMode(EXACT); accrued(5, 1, 2) : IllegalState; accrued(6, 1, 2) : 3; accrued(1, 0, 366) : 0
            accrued(1, 1, 366) : IllegalState; accrued(1, 366, 366) : 1
            accrued(1, 365, 366) : IllegalState; accrued(10^9, 366, 366) : 10^9; accrued(5, 3, 2) : IllegalArgument
            accrued(-5, 1, 2) : IllegalArgument
            """);
    }
}
