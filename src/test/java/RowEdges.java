/** Edges of promises 1 to 12 and 37: a new object, ways to round, the row of payments. */
final class RowEdges {
    private RowEdges() {
    }

    static void test(Edges edges) {
        newObject(edges);
        modes(edges);
        rounds(edges);
        roundsEachWay(edges);
        pays(edges);
        paysMany(edges);
        refusesMany(edges);
        clearsAndAnswers(edges);
        worths(edges);
        roundsWorths(edges);
        signs(edges);
        countsChanges(edges);
        yields(edges);
        refusesYields(edges);
        means(edges);
    }

    private static void newObject(Edges edges) {
        edges.of(1, "Creates a house", """
            mode() : HALF_EVEN
            amount(0) : 0; amount(20) : 0; amount(40) : 0; changes() : 0; meanAmount() : 0.0; clearRow() : 0
            worth(0, 0) : 0; worth(40, 20000) : 0; signAt(0) : 0; signAt(20000) : 0; rowYield() : IllegalState
            rows() : IllegalState; rowOf(1, 0) : IllegalState; total(1) : IllegalState; interestShare() : 0.0f
            holiday(1) : IllegalState; change(2, 0) : IllegalState; early(1, 0) : IllegalState
            lifeWorth(0, 1, 0) : NoSuchElement; deathWorth(0, 1, 0) : NoSuchElement; premium(0, 1, 0) : NoSuchElement
            reserve(0, 0, 1, 0, true) : NoSuchElement; reserve(0, 0, 1, 0, false) : NoSuchElement; clearLives() : 0
            part(1, 0) : NoSuchElement; part(0, 0) : NoSuchElement; clearWeights() : 0
            tax(0) : 0; tax(10^12) : 0; untaxed(0) : 0; untaxed(10^9) : 10^9; clearSteps() : 0
            errors(0) : 0; errors(20000) : 0
            """);
    }

    private static void modes(Edges edges) {
        edges.of(2, "Sets the way", "setMode(FLOOR) : 6; round(-1, 2, 0) : -1; setMode(CEILING) : 3; round(-1, 2, 0) : 0");
        edges.of(2, "`mode`: UP to EXACT", """
            setMode(0) : 6; mode() : 0; setMode(7) : 0; mode() : 7; setMode(UP) : 7; setMode(EXACT) : 0
            """);
        edges.of(2, "Returns the way before", """
            setMode(6) : 6; setMode(1) : 6; setMode(2) : 1; setMode(3) : 2; setMode(4) : 3; setMode(5) : 4; setMode(5) : 5
            """);
        edges.of(2, "Throws `IllegalArgumentException`", """
            setMode(8) : IllegalArgument; setMode(-1) : IllegalArgument; mode() : 6; setMode(7) : 6
            setMode(8) : IllegalArgument; setMode(int.MAX) : IllegalArgument; setMode(int.MIN) : IllegalArgument; mode() : 7
            setMode(0) : 7; setMode(-1) : IllegalArgument; mode() : 0; round(1, 3, 0) : 1
            """);
        edges.of(3, "Returns the way to round", "mode() : 6; setMode(4) : 6; mode() : 4; mode() : 4");
        edges.of(3, "Returns UP to EXACT", """
            setMode(0); mode() : UP; setMode(1); mode() : DOWN; setMode(2); mode() : CEILING; setMode(3); mode() : FLOOR
            setMode(4); mode() : HALF_UP; setMode(5); mode() : HALF_DOWN; setMode(6); mode() : HALF_EVEN; setMode(7); mode() : EXACT
            """);
    }

    private static void rounds(Edges edges) {
        edges.of(4, "Rounds a fraction times", "round(22, 7, 2) : 314; round(-22, 7, 3) : -3143; round(0, 10^12, 6) : 0");
        edges.of(4, "`over`", """
            round(10^12, 1, 0) : 10^12; round(-10^12, 1, 0) : -10^12; round(10^12, 1, 6) : 10^18; round(-10^12, 1, 6) : -10^18
            round(10^12, 3, 6) : 333333333333333333; round(0, 1, 6) : 0; round(1, 1, 0) : 1; round(-1, 1, 0) : -1
            """);
        edges.of(4, "`under`", """
            round(7, 1, 0) : 7; round(10^12, 10^12, 0) : 1; round(10^12-1, 10^12, 0) : 1; round(500000000000, 10^12, 0) : 0
            round(500000000001, 10^12, 0) : 1; round(1, 10^12, 6) : 0; round(10^12, 10^12-1, 6) : 1000000
            """);
        edges.of(4, "`digits`", """
            round(1234567, 10^6, 0) : 1; round(1234567, 10^6, 1) : 12; round(1234567, 10^6, 2) : 123; round(1234567, 10^6, 3) : 1235
            round(1234567, 10^6, 4) : 12346; round(1234567, 10^6, 5) : 123457; round(1234567, 10^6, 6) : 1234567
            """);
        edges.of(4, "Throws `IllegalArgumentException`", """
            round(10^12+1, 1, 0) : IllegalArgument; round(-10^12-1, 1, 0) : IllegalArgument
            round(long.MAX, 1, 0) : IllegalArgument; round(long.MIN, 1, 0) : IllegalArgument
            round(1, 0, 0) : IllegalArgument; round(1, -1, 0) : IllegalArgument; round(1, 10^12+1, 0) : IllegalArgument
            round(1, long.MAX, 0) : IllegalArgument; round(1, long.MIN, 0) : IllegalArgument; round(0, 0, 0) : IllegalArgument
            round(1, 1, -1) : IllegalArgument; round(1, 1, 7) : IllegalArgument
            round(1, 1, int.MAX) : IllegalArgument; round(1, 1, int.MIN) : IllegalArgument
            """);
        edges.of(4, "Throws `IllegalStateException`", """
            setMode(EXACT); round(1, 2, 0) : IllegalState; round(1, 2, 1) : 5; round(-1, 2, 0) : IllegalState; round(-1, 2, 1) : -5
            round(1, 3, 6) : IllegalState; round(3, 3, 6) : 1000000; round(1, 10^6, 6) : 1; round(1, 10^6+1, 6) : IllegalState
            round(0, 7, 0) : 0; round(10^12, 10^12, 0) : 1; round(10^12-1, 10^12, 0) : IllegalState; round(10^12, 10^12-1, 6) : IllegalState
            mode() : 7
            """);
    }

    private static void roundsEachWay(Edges edges) {
        edges.of(4, "Returns the fraction times", """
            each round(5, 2, 0) : 3 2 3 2 3 2 2 IllegalState
            each round(7, 2, 0) : 4 3 4 3 4 3 4 IllegalState
            each round(-5, 2, 0) : -3 -2 -2 -3 -3 -2 -2 IllegalState
            each round(-7, 2, 0) : -4 -3 -3 -4 -4 -3 -4 IllegalState
            each round(1, 2, 0) : 1 0 1 0 1 0 0 IllegalState
            each round(-1, 2, 0) : -1 0 0 -1 -1 0 0 IllegalState
            each round(3, 1, 0) : 3 3 3 3 3 3 3 3
            each round(-3, 1, 0) : -3 -3 -3 -3 -3 -3 -3 -3
            each round(0, 1, 0) : 0 0 0 0 0 0 0 0
            """);
        edges.of(4, "Returns the fraction times", """
            each round(1, 3, 0) : 1 0 1 0 0 0 0 IllegalState
            each round(2, 3, 0) : 1 0 1 0 1 1 1 IllegalState
            each round(-1, 3, 0) : -1 0 0 -1 0 0 0 IllegalState
            each round(-2, 3, 0) : -1 0 0 -1 -1 -1 -1 IllegalState
            each round(499999999999, 10^12, 0) : 1 0 1 0 0 0 0 IllegalState
            each round(500000000001, 10^12, 0) : 1 0 1 0 1 1 1 IllegalState
            each round(10^12, 3, 6) : 333333333333333334 333333333333333333 333333333333333334 333333333333333333 333333333333333333 333333333333333333 333333333333333333 IllegalState
            """);
    }

    private static void pays(Edges edges) {
        edges.of(5, "Adds an amount", "pay(7, 5) : 5; pay(7, 6) : 11; pay(7, -20) : -9; amount(6) : 0; amount(8) : 0; amount(7) : -9");
        edges.of(5, "`period`", "pay(0, 1) : 1; pay(40, 2) : 2; pay(39, 3) : 3; amount(0) : 1; amount(40) : 2; amount(39) : 3");
        edges.of(5, "`amount`", "pay(0, 10^9) : 10^9; pay(1, -10^9) : -10^9; pay(2, 0) : 0; pay(0, -10^9) : 0; pay(1, 10^9) : 0");
        edges.of(5, "Returns the amount", "pay(3, 10^9-1) : 10^9-1; pay(3, 1) : 10^9; pay(3, 0) : 10^9; pay(3, -10^9) : 0; pay(3, -10^9) : -10^9");
        edges.of(5, "Throws `IllegalArgumentException`", """
            payMany(0, 41, 5, 0)
            pay(-1, 1) : IllegalArgument; pay(41, 1) : IllegalArgument; pay(int.MAX, 1) : IllegalArgument; pay(int.MIN, 1) : IllegalArgument
            pay(0, 10^9+1) : IllegalArgument; pay(0, -10^9-1) : IllegalArgument; pay(40, 10^9+1) : IllegalArgument
            pay(0, long.MAX) : IllegalArgument; pay(0, long.MIN) : IllegalArgument; amount(0) : 5; amount(40) : 5
            """);
        edges.of(5, "Throws `IllegalStateException`", """
            pay(0, 10^9); pay(0, 1) : IllegalState; pay(0, 10^9) : IllegalState; amount(0) : 10^9; pay(0, 0) : 10^9; pay(0, -1) : 10^9-1
            pay(0, 2) : IllegalState; pay(0, 1) : 10^9; pay(40, -10^9); pay(40, -1) : IllegalState; pay(40, -10^9) : IllegalState
            amount(40) : -10^9; pay(40, 0) : -10^9; pay(40, 1) : -10^9+1; pay(40, -2) : IllegalState; pay(40, -1) : -10^9
            """);
    }

    private static void paysMany(Edges edges) {
        edges.of(6, "Adds amounts to those", """
            pay(5, 100); payMany(4, 3, 10, -4) : 3; amount(3) : 0; amount(4) : 10; amount(5) : 106; amount(6) : 2; amount(7) : 0
            payMany(4, 3, 0, 5) : 3; amount(4) : 10; amount(5) : 111; amount(6) : 12
            """);
        edges.of(6, "`from`", "payMany(0, 1, 7, 1) : 1; amount(0) : 7; amount(1) : 0; payMany(40, 1, 8, 1) : 2; amount(40) : 8; amount(39) : 0");
        edges.of(6, "`many`", """
            payMany(3, 1, 7, 1) : 1; amount(4) : 0; clearRow(); payMany(0, 41, 1, 1) : 41; amount(0) : 1; amount(40) : 41
            clearRow(); payMany(0, 40, 1, 1) : 40; amount(39) : 40; amount(40) : 0
            """);
        edges.of(6, "`amount`", """
            payMany(0, 2, 10^9, 0) : 2; amount(1) : 10^9; payMany(2, 2, -10^9, 0) : 4; amount(3) : -10^9; payMany(4, 2, 0, 0) : 4
            """);
        edges.of(6, "`step`", """
            payMany(0, 41, 0, 10^6) : 40; amount(1) : 10^6; amount(40) : 40000000; clearRow() : 40
            payMany(0, 41, 0, -10^6) : 40; amount(1) : -10^6; amount(40) : -40000000
            """);
        edges.of(6, "Returns how many periods", """
            payMany(0, 41, -20, 1) : 40; payMany(20, 1, 0, 5) : 40; payMany(20, 1, 1, 5) : 41; payMany(0, 41, 20, -1) : 1
            payMany(20, 1, -1, 0) : 0
            """);
    }

    private static void refusesMany(Edges edges) {
        edges.of(6, "Throws `IllegalArgumentException`", """
            payMany(-1, 1, 1, 0) : IllegalArgument; payMany(41, 1, 1, 0) : IllegalArgument; payMany(-1, 41, 1, 0) : IllegalArgument
            payMany(int.MAX, 1, 1, 0) : IllegalArgument; payMany(int.MIN, 1, 1, 0) : IllegalArgument
            payMany(0, 0, 1, 0) : IllegalArgument; payMany(0, 42, 1, 0) : IllegalArgument; payMany(5, -1, 1, 0) : IllegalArgument
            payMany(0, int.MAX, 1, 0) : IllegalArgument; payMany(40, int.MAX, 1, 0) : IllegalArgument
            payMany(0, int.MIN, 1, 0) : IllegalArgument
            payMany(0, 1, 10^9+1, 0) : IllegalArgument; payMany(0, 1, -10^9-1, 0) : IllegalArgument
            payMany(0, 1, long.MAX, 0) : IllegalArgument; payMany(0, 1, long.MIN, 0) : IllegalArgument
            payMany(0, 1, 1, 10^6+1) : IllegalArgument; payMany(0, 1, 1, -10^6-1) : IllegalArgument
            payMany(0, 2, 1, long.MAX) : IllegalArgument; payMany(0, 2, 1, long.MIN) : IllegalArgument
            clearRow() : 0
            """);
        edges.of(6, "Throws `IllegalArgumentException`", """
            payMany(40, 2, 1, 0) : IllegalArgument; payMany(1, 41, 1, 0) : IllegalArgument; payMany(39, 3, 1, 0) : IllegalArgument
            clearRow() : 0; payMany(39, 2, 1, 0) : 2; payMany(1, 40, 1, 0) : 40; amount(0) : 0; amount(40) : 2
            """);
        edges.of(6, "Throws `IllegalStateException`", """
            payMany(0, 3, 10^9-2, 1) : 3; amount(2) : 10^9
            payMany(0, 2, 3, -1) : IllegalState; payMany(0, 3, 1, 0) : IllegalState; payMany(1, 2, 1, 0) : IllegalState
            payMany(0, 3, 2, -1) : 3; amount(0) : 10^9; amount(1) : 10^9; amount(2) : 10^9; payMany(2, 1, 1, 0) : IllegalState
            payMany(10, 3, -10^9+2, -1) : 6; amount(12) : -10^9
            payMany(10, 2, -3, 1) : IllegalState; payMany(10, 3, -1, 0) : IllegalState; payMany(11, 2, -1, 0) : IllegalState
            payMany(10, 3, -2, 1) : 6; amount(10) : -10^9; amount(12) : -10^9; payMany(12, 1, -1, 0) : IllegalState
            clearRow(); payMany(0, 2, 10^9, 1) : IllegalState; payMany(0, 2, -10^9, -1) : IllegalState; clearRow() : 0
            """);
        edges.of(6, "Throws `IllegalStateException`", """
            payMany(0, 41, 10^9, -50000000) : IllegalArgument
            pay(3, -10^6); payMany(2, 2, 10^9, 10^6) : 2; amount(2) : 10^9; amount(3) : 10^9
            pay(6, 10^6); payMany(5, 2, -10^9, -10^6) : 4; amount(6) : -10^9
            payMany(7, 2, 10^9, 10^6) : IllegalState; payMany(7, 2, -10^9, -10^6) : IllegalState; clearRow() : 4
            """);
    }

    private static void clearsAndAnswers(Edges edges) {
        edges.of(7, "Makes all amounts", """
            payMany(0, 41, 10^9, 0); clearRow(); amount(0) : 0; amount(20) : 0; amount(40) : 0; changes() : 0; meanAmount() : 0.0
            payMany(0, 41, -10^9, 0) : 41; amount(40) : -10^9
            """);
        edges.of(7, "Returns how many were not", """
            clearRow() : 0; payMany(0, 41, 1, 0); clearRow() : 41; clearRow() : 0; pay(40, -1); clearRow() : 1; pay(0, 1); clearRow() : 1
            pay(0, 1); pay(0, -1); clearRow() : 0; payMany(0, 41, -40, 1); clearRow() : 40
            """);
        edges.of(8, "Returns the amount of", "payMany(0, 41, 100, 1); amount(0) : 100; amount(1) : 101; amount(39) : 139; amount(40) : 140");
        edges.of(8, "`period`", "amount(0) : 0; amount(40) : 0; pay(0, 7); pay(40, 8); amount(0) : 7; amount(40) : 8");
        edges.of(8, "Returns the amount.", "pay(5, 10^9); amount(5) : 10^9; pay(5, -10^9); amount(5) : 0; pay(5, -10^9); amount(5) : -10^9");
        edges.of(8, "Throws `IllegalArgumentException`", """
            payMany(0, 41, 5, 0); amount(-1) : IllegalArgument; amount(41) : IllegalArgument
            amount(int.MAX) : IllegalArgument; amount(int.MIN) : IllegalArgument
            """);
    }

    private static void worths(Edges edges) {
        edges.of(9, "Returns what the row", """
            payMany(0, 41, 10^9, 0); worth(0, 0) : 41000000000; worth(40, 0) : 41000000000
            worth(40, 20000) : 8813629407815; worth(0, 20000) : 5996598111; worth(40, 19999) : 8811057431089; worth(0, 19999) : 5996846819
            worth(20, 1) : 41000000287; payMany(0, 41, -10^9, 0); payMany(0, 41, -10^9, 0)
            worth(40, 20000) : -8813629407815; worth(0, 20000) : -5996598111; worth(20, 1) : -41000000287
            """);
        edges.of(9, "`period`", """
            pay(40, 11000); pay(0, 10000); worth(40, 0) : 21000; worth(39, 10000) : 421448; worth(1, 10000) : 11267; worth(0, 10000) : 10243
            clearRow(); pay(40, 12); worth(39, 20000) : 10; worth(40, 20000) : 12; clearRow(); pay(0, 10); worth(0, 20000) : 10
            worth(1, 20000) : 12
            """);
        edges.of(9, "`points`", """
            pay(3, 100000); worth(4, 0) : 100000; worth(4, 1) : 100001; worth(4, 19999) : 119999; worth(4, 20000) : 120000
            worth(2, 20000) : 83333; worth(2, 0) : 100000
            """);
        edges.of(9, "Throws `IllegalArgumentException`", """
            payMany(0, 41, 5, 0); worth(-1, 0) : IllegalArgument; worth(41, 0) : IllegalArgument; worth(0, -1) : IllegalArgument
            worth(0, 20001) : IllegalArgument; worth(40, 20001) : IllegalArgument; worth(int.MAX, 0) : IllegalArgument
            worth(int.MIN, 0) : IllegalArgument; worth(0, int.MAX) : IllegalArgument; worth(0, int.MIN) : IllegalArgument
            """);
        // 10^18 is out of reach: 41 amounts of 10^9 are worth 8813629407815 at most, as above.
        edges.of(9, "Throws `IllegalStateException`", """
            setMode(EXACT); worth(0, 20000) : 0; pay(1, 120); worth(0, 20000) : 100; worth(0, 19999) : IllegalState; worth(1, 19999) : 120
            worth(2, 20000) : 144; worth(3, 20000) : IllegalState; pay(0, -100); worth(40, 20000) : 0; worth(0, 20000) : 0
            worth(0, 19999) : IllegalState; clearRow(); payMany(0, 41, 10^9, 0); worth(40, 0) : 41000000000; worth(40, 20000) : IllegalState
            worth(0, 20000) : IllegalState; payMany(0, 41, -10^9, 0); worth(0, 1) : 0
            """);
    }

    private static void roundsWorths(Edges edges) {
        edges.of(9, "Returns this, rounded", """
            pay(0, 5); each worth(1, 10000) : 6 5 6 5 6 5 6 IllegalState; pay(0, 10)
            each worth(1, 10000) : 17 16 17 16 17 16 16 IllegalState
            pay(0, -20); each worth(1, 10000) : -6 -5 -5 -6 -6 -5 -6 IllegalState
            """);
        edges.of(9, "Returns this, rounded", """
            pay(1, 9); each worth(0, 20000) : 8 7 8 7 8 7 8 IllegalState; pay(1, -18)
            each worth(0, 20000) : -8 -7 -7 -8 -8 -7 -8 IllegalState
            pay(1, 10); each worth(0, 10000) : 1 0 1 0 1 1 1 IllegalState
            """);
        edges.of(9, "Returns this, rounded", """
            payMany(0, 41, 10^9, 0)
            each worth(40, 20000) : 8813629407815 8813629407814 8813629407815 8813629407814 8813629407815 8813629407815 8813629407815 IllegalState
            each worth(40, 19999) : 8811057431090 8811057431089 8811057431090 8811057431089 8811057431089 8811057431089 8811057431089 IllegalState
            each worth(0, 19999) : 5996846820 5996846819 5996846820 5996846819 5996846819 5996846819 5996846819 IllegalState
            """);
    }

    private static void signs(Edges edges) {
        edges.of(10, "Returns the sign", """
            pay(3, -100000); pay(4, 100001); signAt(0) : 1; signAt(1) : 0; signAt(2) : -1; signAt(20000) : -1
            clearRow(); pay(0, -1); pay(40, 1469); signAt(20000) : -1; pay(40, 1); signAt(20000) : 1
            """);
        edges.of(10, "`points`", """
            pay(0, -100000); pay(1, 119999); signAt(19998) : 1; signAt(19999) : 0; signAt(20000) : -1; pay(1, 1); signAt(19999) : 1
            signAt(20000) : 0
            pay(1, -20000); signAt(0) : 0; signAt(1) : -1; pay(1, 1); signAt(0) : 1; signAt(1) : 0
            """);
        edges.of(10, "Returns -1, 0 or 1", """
            signAt(0) : 0; signAt(20000) : 0; pay(40, 1); signAt(0) : 1; signAt(20000) : 1; pay(40, -2); signAt(0) : -1; signAt(20000) : -1
            clearRow(); payMany(0, 41, 10^9, 0); signAt(20000) : 1; payMany(0, 41, -10^9, 0); signAt(20000) : 0
            payMany(0, 41, -10^9, 0); signAt(20000) : -1; signAt(0) : -1
            """);
        // Each amount makes up for what the ones ahead have come to, at 19999 points; a cent more or less decides.
        edges.of(10, "Returns -1, 0 or 1", """
            payMany(0, 40, -100000, 0); payMany(1, 40, 119999, 0); signAt(19999) : 0; pay(40, 1); signAt(19999) : 1; pay(40, -2)
            signAt(19999) : -1; pay(40, 1); pay(0, 1); signAt(19999) : 1; pay(0, -2); signAt(19999) : -1; setMode(EXACT); signAt(19999) : -1
            """);
        edges.of(10, "Throws `IllegalArgumentException`", """
            payMany(0, 41, 5, 0); signAt(-1) : IllegalArgument; signAt(20001) : IllegalArgument
            signAt(int.MAX) : IllegalArgument; signAt(int.MIN) : IllegalArgument
            """);
    }

    private static void countsChanges(Edges edges) {
        edges.of(11, "Counts how often", """
            changes() : 0; pay(0, 1); changes() : 0; pay(40, -1); changes() : 1; pay(20, 1); changes() : 1; pay(30, -1); changes() : 1
            pay(35, 1); changes() : 3; pay(40, 1); changes() : 2; clearRow(); changes() : 0; pay(40, 5); changes() : 0
            """);
        edges.of(11, "Returns how often", """
            payMany(0, 41, 1, 0); changes() : 0; payMany(0, 41, -2, 0); changes() : 0; payMany(0, 20, 2, 0); changes() : 1
            pay(20, 1); changes() : 1
            pay(19, -2); changes() : 1; pay(0, -1); changes() : 1; pay(0, -1); changes() : 2
            """);
        StringBuilder most = new StringBuilder();
        for (int period = 0; period <= 40; period++) {
            most.append("pay(" + period + ", " + (period % 2 == 0 ? 10 : -10) + "); changes() : " + period + "\n");
        }
        edges.of(11, "Returns how often", most.toString());
    }

    private static void yields(Edges edges) {
        edges.of(12, "Finds the least rate", """
            pay(0, -100000); pay(1, 110000); rowYield() : 10000; pay(1, 1); rowYield() : 10001; pay(1, -2); rowYield() : 9999
            clearRow(); pay(0, 100000); pay(1, -110000); rowYield() : 10000; pay(1, -1); rowYield() : 10001; pay(1, 2); rowYield() : 9999
            """);
        // 12.5898 % is the rate at which 3 are 4 times 1; it is no point, and the next one has the sign.
        edges.of(12, "Finds the least rate", """
            pay(0, -30000); payMany(1, 4, 10000, 0); rowYield() : 12590; signAt(12589) : 1; signAt(12590) : -1
            payMany(0, 1, 60000, 0); payMany(1, 4, -20000, 0); rowYield() : 12590; signAt(12589) : -1; signAt(12590) : 1
            """);
        edges.of(12, "Finds the least rate", """
            pay(39, -100); pay(40, 105); rowYield() : 5000; pay(0, -1); rowYield() : 2409; signAt(2408) : 1; signAt(2409) : -1
            clearRow(); payMany(0, 40, -10^9, 0); pay(40, 10^9); rowYield() : 0; clearRow(); pay(0, -10^9); payMany(1, 40, 10^9, 0)
            rowYield() : NONE
            clearRow(); pay(0, -10^9); payMany(1, 40, 25000000, 0); rowYield() : 0; pay(40, 1); rowYield() : 1; setMode(EXACT)
            rowYield() : 1
            """);
        edges.of(12, "Returns the rate in points", """
            pay(0, -100000); pay(1, 100000); rowYield() : 0; pay(1, -1); rowYield() : 0; pay(1, 2); rowYield() : 1
            pay(1, 19998); rowYield() : 19999; pay(1, 1); rowYield() : 20000; pay(1, 1); rowYield() : NONE; pay(1, 10^8); rowYield() : NONE
            clearRow(); pay(0, 100000); pay(1, -100000); rowYield() : 0; pay(1, 99999); rowYield() : 0; pay(1, -119999); rowYield() : 20000
            pay(1, -1); rowYield() : NONE
            """);
    }

    private static void refusesYields(Edges edges) {
        edges.of(12, "Throws `IllegalStateException`", """
            rowYield() : IllegalState; pay(0, -5); rowYield() : IllegalState; pay(40, -5); rowYield() : IllegalState; pay(40, 10)
            rowYield() : 0
            pay(20, 1); rowYield() : 501; pay(30, -1); rowYield() : IllegalState; pay(40, -6); rowYield() : IllegalState; pay(30, 1)
            rowYield() : IllegalState
            pay(40, 6); rowYield() : 501; clearRow(); rowYield() : IllegalState; payMany(0, 41, 10^9, 0); rowYield() : IllegalState
            """);
        edges.of(12, "Throws `IllegalStateException`", """
            payMany(0, 41, -20, 1); rowYield() : 0; pay(40, -21); rowYield() : IllegalState; setMode(EXACT); rowYield() : IllegalState
            """);
    }

    private static void means(Edges edges) {
        edges.of(37, "Returns the mean", "pay(0, 1); pay(40, 2); meanAmount() : 1.5; pay(20, -4); pay(21, 0); meanAmount() : -0.3333333333333333");
        edges.of(37, "Returns all of them", """
            meanAmount() : 0.0; pay(3, 7); meanAmount() : 7.0; pay(3, -7); meanAmount() : 0.0; pay(3, 7); pay(4, -7); meanAmount() : 0.0
            clearRow(); payMany(0, 41, 10^9, 0); meanAmount() : 1.0E9; payMany(0, 41, -10^9, 0); meanAmount() : 0.0
            payMany(0, 41, -10^9, 0); meanAmount() : -1.0E9; pay(0, 1); meanAmount() : -9.999999999756098E8; clearRow(); meanAmount() : 0.0
            """);
    }
}
