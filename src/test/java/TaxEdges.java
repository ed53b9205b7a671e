/** Edges of promises 32 to 36: taxes by steps, and the checks of errors. */
final class TaxEdges {
    private static final String STEPS = "step(100, 100); step(200, 0); step(300, 505)\n";
    private static final String EIGHT = """
        step(0, 1); step(1, 2); step(10, 3); step(100, 4); step(1000, 5); step(10000, 6); step(10^9-1, 999) : 7; step(10^9, 1000) : 8
        """;

    private TaxEdges() {
    }

    static void test(Edges edges) {
        addsSteps(edges);
        refusesSteps(edges);
        clears(edges);
        taxes(edges);
        refusesTaxes(edges);
        untaxes(edges);
        untaxesAtTheEdges(edges);
        checks(edges);
    }

    private static void addsSteps(Edges edges) {
        edges.of(32, "Adds a step", """
            tax(1000) : 0; step(100, 100) : 1; tax(1000) : 90; step(500, 200) : 2; tax(1000) : 140; tax(500) : 40; step(900, 0) : 3
            tax(1000) : 120
            """);
        edges.of(32, "`from`", """
            step(0, 1) : 1; step(0, 1) : IllegalArgument; step(1, 1) : 2; step(1, 1) : IllegalArgument; step(0, 1) : IllegalArgument
            step(10^9-1, 1) : 3
            step(10^9-1, 1) : IllegalArgument; step(10^9, 1) : 4; step(10^9, 1) : IllegalArgument; step(10^9+1, 1) : IllegalArgument
            clearSteps() : 4
            step(10^9, 1000) : 1; tax(10^9) : 0; tax(10^9+1) : 1; step(5, 1) : IllegalArgument; clearSteps() : 1; step(0, 1000) : 1
            tax(1) : 1
            """);
        edges.of(32, "`permille`", """
            step(0, 0) : 1; tax(10^12) : 0; step(10, 1000) : 2; tax(10) : 0; tax(11) : 1; tax(10^12) : 999999999990; step(20, 1) : 3
            step(30, 999) : 4; tax(1020) : 999
            """);
        edges.of(32, "Returns how many", EIGHT + "clearSteps() : 8; step(5, 5) : 1; step(6, 5) : 2");
    }

    private static void refusesSteps(Edges edges) {
        edges.of(32, "Throws `IllegalArgumentException`", """
            step(-1, 5) : IllegalArgument; step(10^9+1, 5) : IllegalArgument; step(long.MAX, 5) : IllegalArgument
            step(long.MIN, 5) : IllegalArgument
            step(0, -1) : IllegalArgument; step(0, 1001) : IllegalArgument; step(0, int.MAX) : IllegalArgument
            step(0, int.MIN) : IllegalArgument
            clearSteps() : 0; step(50, 5) : 1; step(50, 5) : IllegalArgument; step(49, 5) : IllegalArgument
            step(0, 5) : IllegalArgument; step(-1, 5) : IllegalArgument
            step(51, -1) : IllegalArgument; step(51, 1001) : IllegalArgument; step(10^9+1, 5) : IllegalArgument; step(51, 5) : 2
            clearSteps() : 2
            """);
        edges.of(32, "Throws `IllegalStateException`", """
            step(0, 1); step(1, 2); step(10, 3); step(100, 4); step(1000, 5); step(10000, 6); step(10^6, 7) : 7
            step(10^7, 1000) : 8; step(10^8, 5) : IllegalState
            step(10^9, 5) : IllegalState; step(10^7+1, 0) : IllegalState; step(10^7, 5) : IllegalArgument
            step(0, 5) : IllegalArgument; step(10^9+1, 5) : IllegalArgument
            step(10^8, 1001) : IllegalArgument; step(10^8, -1) : IllegalArgument; tax(10^9) : 990068989; clearSteps() : 8; step(0, 5) : 1
            """);
    }

    private static void clears(Edges edges) {
        edges.of(33, "Removes all steps", STEPS + """
            tax(1000) : 364; clearSteps() : 3; tax(1000) : 0; untaxed(1000) : 1000; step(0, 500) : 1; tax(1000) : 500
            step(1, 0) : 2; tax(1000) : 0
            """);
        edges.of(33, "Returns how many", EIGHT + """
            clearSteps() : 8; clearSteps() : 0; step(-1, 0) : IllegalArgument; clearSteps() : 0; step(10^9, 0); clearSteps() : 1; clearSteps() : 0
            """);
        edges.of(33, "Returns how many", "clearSteps() : 0; clearSteps() : 0; step(0, 0); clearSteps() : 1");
    }

    private static void taxes(Edges edges) {
        edges.of(34, "Returns the tax", STEPS + """
            tax(0) : 0; tax(99) : 0; tax(100) : 0; tax(101) : 0; tax(110) : 1; tax(199) : 10; tax(200) : 10; tax(201) : 10
            tax(300) : 10; tax(301) : 11
            tax(302) : 11; tax(303) : 12; tax(400) : 60; tax(402) : 62
            """);
        edges.of(34, "Returns the tax", EIGHT + """
            tax(1) : 0; tax(1000) : 4; tax(10^9) : 5999990; tax(10^9+1) : 5999991; tax(10^12) : 999005999990; errors(0) : 0
            """);
        // Two halves are added up and then rounded; each one by itself would be rounded to 0, or to 1.
        edges.of(34, "Returns the tax", """
            step(0, 500); step(1, 500); each tax(2) : 1 1 1 1 1 1 1 1; each tax(1) : 1 0 1 0 1 0 0 IllegalState
            each tax(3) : 2 1 2 1 2 1 2 IllegalState
            """);
        edges.of(34, "`money`", """
            step(0, 1000); tax(0) : 0; tax(1) : 1; tax(10^12-1) : 10^12-1; tax(10^12) : 10^12; clearSteps(); tax(10^12) : 0
            tax(0) : 0; step(0, 1); tax(10^12) : 10^9
            """);
        edges.of(34, "Returns this", """
            step(0, 333); each tax(1) : 1 0 1 0 0 0 0 IllegalState; each tax(2) : 1 0 1 0 1 1 1 IllegalState
            each tax(1000) : 333 333 333 333 333 333 333 333
            """);
    }

    private static void refusesTaxes(Edges edges) {
        edges.of(34, "Throws `IllegalArgumentException`", "tax(-1) : IllegalArgument; tax(10^12+1) : IllegalArgument; tax(0) : 0");
        edges.of(34, "Throws `IllegalArgumentException`", STEPS + """
            tax(-1) : IllegalArgument; tax(10^12+1) : IllegalArgument; tax(long.MAX) : IllegalArgument; tax(long.MIN) : IllegalArgument
            """);
        edges.of(34, "Throws `IllegalStateException`", "setMode(EXACT); tax(10^12) : 0; " + STEPS + """
            tax(100) : 0; tax(101) : IllegalState; tax(109) : IllegalState; tax(110) : 1; tax(300) : 10; tax(301) : IllegalState
            tax(500) : 111; tax(10^12) : IllegalState
            tax(-1) : IllegalArgument; tax(10^12+1) : IllegalArgument
            """);
    }

    private static void untaxes(Edges edges) {
        edges.of(35, "Finds the least money", STEPS + """
            untaxed(0) : 0; untaxed(99) : 99; untaxed(100) : 100; untaxed(101) : 102; untaxed(109) : 110; untaxed(110) : 112
            untaxed(190) : 200; untaxed(191) : 201
            untaxed(290) : 300; untaxed(291) : 303; untaxed(292) : 305; setMode(EXACT); untaxed(291) : 303; setMode(UP); untaxed(291) : 303
            """);
        // All between 100 and 200 is taken: not less than 100 is left of 100, and of 200, but the least is asked for.
        edges.of(35, "Finds the least money", """
            step(100, 1000); step(200, 0); untaxed(99) : 99; untaxed(100) : 100; untaxed(101) : 201; untaxed(10^9) : 1000000100
            """);
        edges.of(35, "Finds the least money", """
            step(0, 1); untaxed(1) : 2; untaxed(998) : 999; untaxed(999) : 1000; untaxed(1000) : 1002; setMode(DOWN)
            untaxed(999) : 1000; untaxed(1) : 2
            """);
        edges.of(35, "`money`", """
            untaxed(0) : 0; untaxed(1) : 1; untaxed(10^9) : 10^9; untaxed(10^9-1) : 10^9-1; step(0, 500); untaxed(0) : 0
            untaxed(1) : 2; untaxed(10^9) : 2000000000
            """);
    }

    private static void untaxesAtTheEdges(Edges edges) {
        edges.of(35, "Returns this, 0 to", """
            step(0, 999); untaxed(10^9) : 10^12; untaxed(10^9-1) : 999999999000; untaxed(1) : 1000; untaxed(0) : 0; clearSteps()
            step(0, 1000); untaxed(0) : 0; untaxed(1) : NONE; untaxed(10^9) : NONE; step(1, 999); untaxed(10^9-1) : 999999999001
            untaxed(10^9) : NONE
            clearSteps(); step(0, 0); step(1, 999); untaxed(10^9) : 999999999001; clearSteps(); step(300, 1000); untaxed(300) : 300
            untaxed(301) : NONE
            """);
        edges.of(35, "Returns this, 0 to", EIGHT + """
            untaxed(10^9) : NONE; untaxed(994000009) : 10^9-2; untaxed(994000010) : 10^9-1; untaxed(994000011) : NONE
            untaxed(1) : 2
            """);
        edges.of(35, "Throws `IllegalArgumentException`", "untaxed(-1) : IllegalArgument; untaxed(10^9+1) : IllegalArgument; untaxed(0) : 0");
        edges.of(35, "Throws `IllegalArgumentException`", STEPS + """
            untaxed(-1) : IllegalArgument; untaxed(10^9+1) : IllegalArgument; untaxed(long.MAX) : IllegalArgument
            untaxed(long.MIN) : IllegalArgument
            """);
    }

    private static void checks(Edges edges) {
        edges.of(36, "Checks what the theorem says", """
            errors(777) : 0; payMany(0, 41, 10^9, 0); lend(12345, 777, 33); holiday(3); early(5, 100); live(1000); live(999)
            live(3); weigh(7); weigh(11); weigh(0)
            errors(777) : 0; setMode(EXACT); errors(777) : 0; setMode(UP); errors(1) : 0; early(1, 10^9); errors(20000) : 0
            """);
        edges.of(36, "`points`", """
            errors(0) : 0; errors(20000) : 0; errors(1) : 0; errors(19999) : 0; pay(3, 5); live(10^6); weigh(0); lend(1, 20000, 60)
            errors(0) : 0; errors(20000) : 0; errors(1) : 0; errors(19999) : 0
            """);
        edges.of(36, "Returns how many checks", """
            payMany(0, 41, -10^9, 0); lend(10^9, 20000, 60); 30 x live(10^6); 12 x weigh(10^6); errors(0) : 0; errors(20000) : 0
            errors(19999) : 0; clearRow(); clearLives()
            clearWeights(); errors(19999) : 0; 12 x weigh(0); errors(19999) : 0; live(10^6); 29 x live(1); errors(19999) : 0
            pay(40, 1); pay(0, -10^9); errors(1) : 0
            """);
        edges.of(36, "Throws `IllegalArgumentException`", """
            errors(-1) : IllegalArgument; errors(20001) : IllegalArgument; pay(3, 5); lend(5, 0, 1); live(5); weigh(5)
            errors(-1) : IllegalArgument; errors(20001) : IllegalArgument; errors(int.MAX) : IllegalArgument
            errors(int.MIN) : IllegalArgument
            """);
    }
}
