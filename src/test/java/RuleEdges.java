import java.util.List;

/** Edges of what the terms say about all of the house, and of the empty and the full house. */
final class RuleEdges {
    /** As much as a house holds; a little is left to step, so that 8 steps alone refuse one more. */
    private static final String FULL = """
        payMany(0, 41, 10^9, 0) : 41; lend(10^9, 20000, 60) : 200003549; change(2, 19999) : 60; change(30, 0) : 60; change(60, 20000) : 60
        early(2, 1000) : 60; early(59, 10^9) : 59; early(60, 10^9) : 59; holiday(1) : true; holiday(30) : true; holiday(59) : true
        rows() : 60
        29 x live(10^6); live(5) : 30; 11 x weigh(10^6); weigh(1) : 12; 7 STEPS; step(10^9-1, 1000) : 8
        """.replace("7 STEPS", "step(0, 1); step(1, 999); step(2, 0); step(1000, 100); step(10000, 200); step(10^6, 333); step(10^8, 501)");
    /** Each call with each wrong parameter, as every house that has a loan of 60 periods refuses it. */
    private static final String WRONG = """
        setMode(-1) : IllegalArgument; setMode(8) : IllegalArgument; round(10^12+1, 1, 0) : IllegalArgument
        round(1, 0, 0) : IllegalArgument; round(1, 1, 7) : IllegalArgument
        pay(-1, 0) : IllegalArgument; pay(41, 0) : IllegalArgument; pay(0, 10^9+1) : IllegalArgument; pay(0, -10^9-1) : IllegalArgument
        payMany(-1, 1, 0, 0) : IllegalArgument; payMany(41, 1, 0, 0) : IllegalArgument; payMany(0, 0, 0, 0) : IllegalArgument
        payMany(0, 42, 0, 0) : IllegalArgument
        payMany(1, 41, -1, 0) : IllegalArgument; payMany(0, 41, 10^9+1, 0) : IllegalArgument; payMany(0, 41, -1, 10^6+1) : IllegalArgument
        amount(41) : IllegalArgument; worth(41, 0) : IllegalArgument; worth(0, 20001) : IllegalArgument; signAt(20001) : IllegalArgument
        lend(0, 0, 1) : IllegalArgument; lend(10^9+1, 0, 1) : IllegalArgument; lend(1, 20001, 1) : IllegalArgument
        lend(1, 0, 0) : IllegalArgument; lend(1, 0, 61) : IllegalArgument
        holiday(0) : IllegalArgument; holiday(60) : IllegalArgument; change(1, 0) : IllegalArgument; change(61, 0) : IllegalArgument
        change(2, 20001) : IllegalArgument
        change(2, -1) : IllegalArgument; early(0, 0) : IllegalArgument; early(61, 0) : IllegalArgument
        early(1, -1) : IllegalArgument; early(1, 10^9+1) : IllegalArgument
        rowOf(1, 7) : IllegalArgument; rowOf(1, -1) : IllegalArgument; rowOf(0, 0) : NoSuchElement; rowOf(61, 0) : NoSuchElement
        total(0) : IllegalArgument; total(4) : IllegalArgument
        price(-1, 0, 1, 0) : IllegalArgument; price(0, -1, 1, 0) : IllegalArgument; price(0, 0, 41, 0) : IllegalArgument
        price(0, 0, 1, 20001) : IllegalArgument
        bondYield(-1, 0, 1, 0) : IllegalArgument; bondYield(0, -1, 1, 0) : IllegalArgument; bondYield(0, 0, 0, 0) : IllegalArgument
        bondYield(0, 0, 1, 10^12+1) : IllegalArgument
        accrued(-1, 0, 1) : IllegalArgument; accrued(0, 2, 1) : IllegalArgument; accrued(0, 0, 367) : IllegalArgument
        live(0) : IllegalArgument; live(10^6+1) : IllegalArgument
        lifeWorth(0, -1, 0) : IllegalArgument; deathWorth(0, 10^9+1, 0) : IllegalArgument; premium(0, 0, 20001) : IllegalArgument
        reserve(0, -1, 0, 0, true) : IllegalArgument
        lifeWorth(30, 0, 0) : NoSuchElement; deathWorth(-1, 0, 0) : NoSuchElement; premium(30, 0, 0) : NoSuchElement
        reserve(0, 30, 0, 0, false) : NoSuchElement
        weigh(-1) : IllegalArgument; weigh(10^6+1) : IllegalArgument; part(-1, 0) : IllegalArgument
        part(10^12+1, 0) : IllegalArgument; part(0, -1) : NoSuchElement; part(0, 12) : NoSuchElement
        step(-1, 0) : IllegalArgument; step(10^9+1, 0) : IllegalArgument; step(10^9, -1) : IllegalArgument
        step(10^9, 1001) : IllegalArgument; tax(-1) : IllegalArgument
        tax(10^12+1) : IllegalArgument; untaxed(-1) : IllegalArgument; untaxed(10^9+1) : IllegalArgument
        errors(-1) : IllegalArgument; errors(20001) : IllegalArgument
        """;
    /** Calls that answer without a change of the house, each way. */
    private static final String QUESTIONS = """
        mode(); round(1, 3, 6); amount(0); worth(0, 19999); worth(40, 20000); signAt(5); changes(); rows(); rowOf(1, 0)
        rowOf(60, 6); total(1); total(3)
        price(5, 7, 40, 19999); bondYield(10^9, 10^9, 40, 10^9); accrued(10^9, 5, 7); lifeWorth(0, 10^9, 19999)
        deathWorth(3, 10^9, 19999); premium(29, 5, 1)
        reserve(0, 29, 10^9, 20000, true); reserve(0, 29, 10^9, 20000, false); part(10^12, 0); part(7, 11); tax(10^12)
        untaxed(10^9); errors(19999); meanAmount(); interestShare()
        """;

    private RuleEdges() {
    }

    static void test(Edges edges) {
        firstException(edges);
        numbers(edges);
        rates(edges);
        waysToRound(edges);
        exactAsFractions(edges);
        rowsOfPayments(edges);
        constants(edges);
        emptyHouse(edges);
        fullHouse(edges);
        lastCall(edges);
        ownHouses(edges);
        withoutEdges(edges);
    }

    private static void firstException(Edges edges) {
        edges.ofTerms("If several exceptions apply", """
            setMode(EXACT); round(1, 3, 7) : IllegalArgument; round(1, 3, -1) : IllegalArgument
            round(10^12+1, 3, 0) : IllegalArgument; pay(0, 10^9) : 10^9
            pay(0, 10^9+1) : IllegalArgument; pay(41, 10^9) : IllegalArgument; payMany(0, 42, 10^9, 0) : IllegalArgument
            payMany(40, 2, 10^9, 0) : IllegalArgument
            payMany(0, 1, 10^9, 10^6+1) : IllegalArgument; worth(41, 1) : IllegalArgument; worth(1, 20001) : IllegalArgument
            lend(1000, 0, 61) : IllegalArgument
            lend(1000, 20001, 3) : IllegalArgument; lend(0, 1, 3) : IllegalArgument; price(1, 1, 41, 1) : IllegalArgument
            price(1, 1, 1, 20001) : IllegalArgument
            accrued(1, 1, 367) : IllegalArgument; accrued(1, 4, 3) : IllegalArgument; accrued(-1, 1, 3) : IllegalArgument
            """);
        edges.ofTerms("If several exceptions apply", """
            rowOf(1, 9) : IllegalState; rowOf(0, 0) : IllegalState; total(9) : IllegalState; holiday(0) : IllegalState
            change(0, -1) : IllegalState; early(0, -1) : IllegalState
            setMode(EXACT); lend(210, 10000, 2); holiday(2) : IllegalArgument; change(2, 20001) : IllegalArgument
            change(3, 1) : IllegalArgument; early(3, 1) : IllegalArgument
            early(1, -1) : IllegalArgument; rowOf(3, 7) : IllegalArgument; rowOf(3, 6) : NoSuchElement
            lend(1000, 0, 0) : IllegalArgument; rows() : 2
            """);
        edges.ofTerms("If several exceptions apply", """
            lifeWorth(0, -1, 0) : IllegalArgument; deathWorth(0, 0, 20001) : IllegalArgument; premium(-1, -1, -1) : IllegalArgument
            reserve(0, -1, 0, 0, true) : IllegalArgument
            reserve(0, 1, -1, 0, true) : IllegalArgument; setMode(EXACT); 30 x live(3); live(4) : IllegalArgument
            live(3) : IllegalState; lifeWorth(30, 7, 7) : NoSuchElement
            lifeWorth(30, -7, 7) : IllegalArgument; deathWorth(30, 7, 7) : NoSuchElement; premium(30, 7, 7) : NoSuchElement
            reserve(1, 29, 7, 7, true) : NoSuchElement
            reserve(1, 29, -7, 7, true) : IllegalArgument; reserve(1, -1, 7, 7, true) : IllegalArgument; lifeWorth(0, 7, 7) : IllegalState
            """);
        edges.ofTerms("If several exceptions apply", """
            part(-1, 0) : IllegalArgument; 12 x weigh(0); part(-1, 12) : IllegalArgument; part(-1, 0) : IllegalArgument
            weigh(-1) : IllegalArgument; weigh(1) : IllegalState
            step(0, 1); step(1, 1); step(2, 1); step(3, 1); step(4, 1); step(5, 1); step(6, 1); step(7, 1)
            step(7, 1) : IllegalArgument; step(8, 1001) : IllegalArgument
            step(8, 1) : IllegalState; setMode(EXACT); tax(-1) : IllegalArgument; tax(10^12+1) : IllegalArgument; tax(1) : IllegalState
            """);
    }

    private static void numbers(Edges edges) {
        edges.ofTerms("Everything is numbered from 0", """
            pay(0, 5) : 5; amount(0) : 5; payMany(0, 1, 1, 0) : 1; worth(0, 9) : 6; lend(1000, 0, 4); rowOf(0, 0) : NoSuchElement
            rowOf(1, 0) : 1000; rowOf(4, 0) : 250
            rowOf(5, 0) : NoSuchElement; holiday(0) : IllegalArgument; holiday(1) : true; early(0, 1) : IllegalArgument
            early(1, 1) : 4; early(4, 1) : 4
            change(1, 0) : IllegalArgument; change(2, 0) : 4; change(4, 0) : 4; live(8); lifeWorth(0, 5, 0) : 5
            lifeWorth(1, 5, 0) : NoSuchElement; weigh(1); part(5, 0) : 5
            part(5, 1) : NoSuchElement
            """);
    }

    private static void rates(Edges edges) {
        edges.ofTerms("A rate is told in points", """
            setMode(EXACT); pay(1, 100000); worth(2, 1) : 100001; worth(2, 20000) : 120000; worth(2, 0) : 100000
            lend(100000, 1, 1) : 100001; rowOf(1, 1) : 1
            price(0, 100001, 1, 1) : 100000; live(1); deathWorth(0, 100001, 1) : 100000; bondYield(0, 100001, 1, 100000) : 1
            """);
        edges.ofTerms("To carry on by a period", """
            setMode(EXACT); pay(20, 1210); worth(20, 10000) : 1210; worth(21, 10000) : 1331; worth(19, 10000) : 1100
            worth(18, 10000) : 1000; worth(17, 10000) : IllegalState
            worth(22, 10000) : IllegalState; setMode(DOWN); worth(22, 10000) : 1464; worth(17, 10000) : 909; worth(0, 10000) : 179
            worth(40, 10000) : 8140
            """);
    }

    private static void waysToRound(Edges edges) {
        String[] due = {"2 1 2 1 1 1 1", "2 1 2 1 2 1 2", "2 1 2 1 2 2 2", "1 1 1 1 1 1 1", "3 2 3 2 3 2 2",
            "-2 -1 -1 -2 -1 -1 -1", "-2 -1 -1 -2 -2 -1 -2", "-2 -1 -1 -2 -2 -2 -2",
            "-1 -1 -1 -1 -1 -1 -1", "-3 -2 -2 -3 -3 -2 -2"};
        int[] tenths = {14, 15, 16, 10, 25, -14, -15, -16, -10, -25};
        for (int i = 0; i < due.length; i++) {
            String exact = tenths[i] % 10 == 0 ? Integer.toString(tenths[i] / 10) : "IllegalState";
            edges.ofTerms("To round a number", "round(5, 2, 0) : 2; each round(" + tenths[i] + ", 10, 0) : " + due[i] + " " + exact);
        }
        // Each call that rounds does so by the way of then, and not by one that was set before or is set later.
        edges.ofTerms("To round a number", """
            pay(0, 5); live(2); live(2); step(0, 500); setMode(UP); worth(1, 10000) : 6; price(0, 3, 1, 20000) : 3
            accrued(5, 1, 2) : 3; lifeWorth(1, 3, 0) : 3
            deathWorth(1, 3, 20000) : 3; premium(0, 5, 0) : 3; reserve(0, 1, 5, 0, true) : 3; tax(5) : 3; lend(5, 0, 2) : 3
            setMode(DOWN); worth(1, 10000) : 5
            price(0, 3, 1, 20000) : 2; accrued(5, 1, 2) : 2; deathWorth(1, 3, 20000) : 2; premium(0, 5, 0) : 2
            reserve(0, 1, 5, 0, true) : 2; tax(5) : 2; rowOf(1, 2) : 3; lend(5, 0, 2) : 2
            """);
    }

    private static void exactAsFractions(Edges edges) {
        // 1.44 and 1.2 together are 2.64; 5 at 10 % and 9.09 are 14.59.
        edges.ofTerms("All that is not told to be rounded", """
            payMany(0, 2, 1, 0); worth(2, 20000) : 3; clearRow(); pay(0, 5); pay(2, 10); worth(1, 10000) : 15
            price(1, 1, 2, 20000) : 2; live(3); live(2); live(1)
            lifeWorth(0, 1, 0) : 2; lifeWorth(0, 3, 0) : 6; premium(0, 5, 0) : 2; premium(0, 3, 0) : 2; step(0, 500); step(1, 500)
            tax(2) : 1; untaxed(1) : 2
            """);
        edges.ofTerms("All that is not told to be rounded", """
            payMany(0, 40, -100000, 0); payMany(1, 40, 119999, 0); setMode(EXACT); worth(0, 19999) : 0; worth(40, 19999) : 0
            worth(17, 19999) : 0; signAt(19999) : 0
            pay(0, 1); signAt(19999) : 1; worth(0, 19999) : 1; worth(1, 19999) : IllegalState; pay(0, -1); pay(40, -1)
            signAt(19999) : -1; worth(40, 19999) : -1
            """);
    }

    private static void rowsOfPayments(Edges edges) {
        StringBuilder empty = new StringBuilder();
        StringBuilder full = new StringBuilder("payMany(0, 41, 7, 3) : 41\n");
        for (int period = 0; period <= 40; period++) {
            empty.append("amount(" + period + ") : 0\n");
            full.append("amount(" + period + ") : " + (7 + 3 * period) + "\n");
        }
        edges.ofTerms("The row has an amount", empty + "pay(-1, 1) : IllegalArgument; pay(41, 1) : IllegalArgument\n" + full);
        edges.ofTerms("What it is worth at a period", """
            pay(0, 10000); pay(1, 11000); pay(2, 12100); setMode(EXACT); worth(0, 10000) : 30000; worth(1, 10000) : 33000
            worth(2, 10000) : 36300; worth(3, 10000) : 39930
            worth(0, 0) : 33100; worth(40, 0) : 33100; clearRow(); pay(40, 144); pay(39, 120); worth(38, 20000) : 200
            worth(39, 20000) : 240; worth(40, 20000) : 288
            """);
        edges.ofTerms("Its signs are those", """
            pay(40, 5); pay(0, -5); changes() : 1; rowYield() : 0; pay(20, 0); changes() : 1; pay(20, -1); pay(20, 1); changes() : 1
            pay(1, 1); changes() : 1; pay(39, -1); changes() : 3
            """);
    }

    private static void constants(Edges edges) {
        edges.ofTerms("The constants", """
            round(-1, 1, 0) : NONE; pay(0, -1); pay(1, 2); rowYield() : -1; bondYield(0, 2, 1, 1) : -1; step(0, 1000)
            untaxed(1) : -1
            """);
        edges.ofTerms("`UP = 0", """
            round(UP, 1, 0) : 0; round(DOWN, 1, 0) : 1; round(CEILING, 1, 0) : 2; round(FLOOR, 1, 0) : 3; round(HALF_UP, 1, 0) : 4
            round(HALF_DOWN, 1, 0) : 5
            round(HALF_EVEN, 1, 0) : 6; round(EXACT, 1, 0) : 7
            """);
    }

    /** All that a house refuses as long as it has no loan, no lives, nobody and no row. */
    private static void emptyHouse(Edges edges) {
        String refused = WRONG.replaceAll("((?:holiday|change|early|rowOf|total)\\(.*?\\)) : \\w+", "$1 : IllegalState");
        edges.ofTerms("If several exceptions apply", refused + """
            rowYield() : IllegalState; rows() : IllegalState; rowOf(1, 0) : IllegalState; total(1) : IllegalState
            part(0, 0) : NoSuchElement; lifeWorth(0, 0, 0) : NoSuchElement
            setMode(EXACT); round(1, 3, 0) : IllegalState; price(0, 1, 1, 1) : IllegalState; accrued(1, 1, 2) : IllegalState
            lend(1, 0, 2) : IllegalState
            """);
    }

    private static void fullHouse(Edges edges) {
        edges.ofTerms("If several exceptions apply", FULL + WRONG);
        edges.ofTerms("If several exceptions apply", FULL + """
            pay(0, 1) : IllegalState; pay(40, 1) : IllegalState; payMany(0, 41, 1, 0) : IllegalState
            payMany(39, 2, 0, 1) : IllegalState; payMany(0, 2, 1, -1) : IllegalState
            rowYield() : IllegalState; live(1) : IllegalState; live(5) : IllegalState; live(6) : IllegalArgument
            weigh(0) : IllegalState; weigh(10^6) : IllegalState
            step(10^9, 0) : IllegalState; step(10^9-1, 0) : IllegalArgument; setMode(EXACT); worth(40, 20000) : IllegalState
            round(1, 3, 6) : IllegalState
            lend(10^9, 20000, 60) : IllegalState; lend(1, 0, 2) : IllegalState; holiday(1) : IllegalState
            holiday(59) : IllegalState; change(60, 1) : IllegalState
            change(2, 19999) : IllegalState; early(60, 0) : IllegalState; early(2, 1) : IllegalState
            price(0, 1, 1, 1) : IllegalState; accrued(1, 1, 2) : IllegalState
            lifeWorth(0, 1, 19999) : IllegalState; deathWorth(0, 1, 19999) : IllegalState; premium(0, 1, 19999) : IllegalState
            reserve(0, 9, 1, 19999, true) : IllegalState
            reserve(0, 9, 1, 19999, false) : IllegalState; tax(1) : IllegalState; tax(5) : 1
            """);
        edges.same("Not promised", "Nothing is promised beyond", FULL, QUESTIONS);
        edges.same("Not promised", "Nothing is promised beyond", FULL + "clearRow(); pay(0, -10^9); payMany(1, 40, 10^8, 5)", QUESTIONS + "rowYield()");
    }

    private static void lastCall(Edges edges) {
        edges.run("What it is", "An object is used for at most 512 calls", "510 x pay(3, 1000); pay(3, 1000) : 511000; amount(3) : 511000");
        edges.run("What it is", "An object is used for at most 512 calls", FULL + "300 x errors(19999) : 0; 100 x early(1, 10^9)");
    }

    private static void ownHouses(Edges edges) {
        AnnuityHouse other = new AnnuityHouse();
        String empty = Sight.behind(List.of());
        for (Script.Step step : Script.stepsOf(FULL + "setMode(UP)")) {
            Script.answer(other, step.call());
        }
        edges.due("Promise 1", "Creates a house", "", () -> Sight.difference(empty, Sight.behind(List.of())));
    }

    private static void withoutEdges(Edges edges) {
        for (String heading : new String[] {"Rules", "Rows of payments", "Loans", "Lives"}) {
            edges.without("Terms", heading);
        }
        edges.without("What it is", "A house for money over time");
        edges.without("Terms", "Money is told in cents");
        edges.without("Not promised", "How the state is held");
        edges.without("Not promised", "Use of one object from several threads");
    }
}
