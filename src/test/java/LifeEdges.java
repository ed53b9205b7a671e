/** Edges of promises 23 to 28, and of what the terms say about lives. */
final class LifeEdges {
    private static final String AGES = "live(100); live(60); live(20)\n";

    private LifeEdges() {
    }

    static void test(Edges edges) {
        addsAges(edges);
        refusesAges(edges);
        clears(edges);
        worthsOfLife(edges);
        worthsOfDeath(edges);
        premiums(edges);
        reserves(edges);
        roundsReserves(edges);
        refusesAllAlike(edges);
        refusesReserves(edges);
        tables(edges);
        payments(edges);
        keeps(edges);
    }

    private static void addsAges(Edges edges) {
        edges.of(23, "Adds an age", """
            live(4) : 1; lifeWorth(0, 8, 0) : 8; live(3) : 2; lifeWorth(0, 8, 0) : 14; lifeWorth(1, 8, 0) : 8; live(1) : 3
            lifeWorth(0, 8, 0) : 16
            """);
        edges.of(23, "`left`", """
            live(10^6) : 1; live(10^6) : 2; live(10^6-1) : 3; live(10^6) : IllegalArgument; live(1) : 4; live(1) : 5
            live(2) : IllegalArgument; live(0) : IllegalArgument
            clearLives() : 5; live(1) : 1; live(2) : IllegalArgument; live(1) : 2; clearLives() : 2; live(10^6+1) : IllegalArgument
            live(10^6) : 1
            """);
        edges.of(23, "Returns how many ages", "29 x live(7); live(7) : 30; clearLives() : 30; live(9) : 1; live(9) : 2");
    }

    private static void refusesAges(Edges edges) {
        edges.of(23, "Throws `IllegalArgumentException`", """
            live(0) : IllegalArgument; live(-1) : IllegalArgument; live(10^6+1) : IllegalArgument; live(int.MAX) : IllegalArgument
            live(int.MIN) : IllegalArgument
            clearLives() : 0; live(500) : 1; live(501) : IllegalArgument; live(0) : IllegalArgument; live(10^6) : IllegalArgument
            live(int.MIN) : IllegalArgument
            live(500) : 2; live(499) : 3; live(500) : IllegalArgument; live(-499) : IllegalArgument; clearLives() : 3
            """);
        edges.of(23, "Throws `IllegalStateException`", """
            29 x live(7); live(7) : 30; live(7) : IllegalState; live(1) : IllegalState; live(8) : IllegalArgument; live(0) : IllegalArgument
            lifeWorth(29, 5, 0) : 5; lifeWorth(0, 5, 0) : 150; lifeWorth(30, 5, 0) : NoSuchElement; clearLives() : 30; live(10^6) : 1
            """);
    }

    private static void clears(Edges edges) {
        edges.of(24, "Empties the table", AGES + """
            clearLives() : 3; lifeWorth(0, 1, 0) : NoSuchElement; deathWorth(0, 1, 0) : NoSuchElement; premium(0, 1, 0) : NoSuchElement
            reserve(0, 0, 1, 0, true) : NoSuchElement; live(1000) : 1; lifeWorth(0, 5, 0) : 5; deathWorth(0, 120, 20000) : 100
            lifeWorth(1, 5, 0) : NoSuchElement
            """);
        edges.of(24, "Returns how many ages", """
            clearLives() : 0; live(1); clearLives() : 1; clearLives() : 0; 30 x live(9); clearLives() : 30; clearLives() : 0
            live(0) : IllegalArgument; clearLives() : 0
            """);
    }

    private static void worthsOfLife(Edges edges) {
        edges.of(25, "Returns what yearly payments", AGES + """
            lifeWorth(0, 12100, 10000) : 20700; lifeWorth(1, 3300, 10000) : 4300; lifeWorth(2, 7, 20000) : 7
            lifeWorth(0, 1000, 0) : 1800
            """);
        edges.of(25, "`age`", AGES + """
            lifeWorth(0, 5, 0) : 9; lifeWorth(2, 5, 0) : 5; clearLives(); 30 x live(10^6); lifeWorth(0, 1, 0) : 30
            lifeWorth(28, 1, 0) : 2; lifeWorth(29, 1, 0) : 1; lifeWorth(29, 10^9, 20000) : 10^9
            """);
        edges.of(25, "`money`", AGES + """
            lifeWorth(0, 0, 20000) : 0; lifeWorth(2, 1, 0) : 1; lifeWorth(2, 10^9, 0) : 10^9; lifeWorth(0, 10^9, 0) : 1800000000
            clearLives(); 30 x live(10^6); lifeWorth(0, 10^9, 0) : 30000000000
            """);
        edges.of(25, "`points`", """
            live(9); live(9); lifeWorth(0, 100001, 1) : 200001; lifeWorth(0, 100001, 0) : 200002
            lifeWorth(0, 119999, 19999) : 219999; lifeWorth(0, 120000, 20000) : 220000
            """);
        edges.of(25, "Returns this, rounded", """
            live(4); live(3); live(2); live(1); each lifeWorth(0, 1, 0) : 3 2 3 2 3 2 2 IllegalState
            each lifeWorth(0, 3, 0) : 8 7 8 7 8 7 8 IllegalState
            each lifeWorth(1, 7, 10000) : 14 13 14 13 13 13 13 IllegalState; each lifeWorth(0, 2, 0) : 5 5 5 5 5 5 5 5
            """);
        edges.of(25, "Returns this, rounded", """
            30 x live(10^6)
            each lifeWorth(0, 10^9, 20000) : 5974723679 5974723678 5974723679 5974723678 5974723679 5974723679 5974723679 IllegalState
            each lifeWorth(0, 10^9, 1) : 29995650450 29995650449 29995650450 29995650449 29995650449 29995650449 29995650449 IllegalState
            """);
        edges.of(25, "Returns this, rounded", """
            live(10^6); 29 x live(1)
            each lifeWorth(0, 10^9, 20000) : 1000004975 1000004974 1000004975 1000004974 1000004975 1000004975 1000004975 IllegalState
            """);
    }

    private static void worthsOfDeath(Edges edges) {
        edges.of(26, "Returns what money that is paid", AGES + """
            deathWorth(0, 133100, 10000) : 112400; deathWorth(1, 3630, 10000) : 3200; deathWorth(2, 6, 20000) : 5
            deathWorth(0, 1000, 0) : 1000
            """);
        edges.of(26, "`age`", AGES + """
            deathWorth(0, 5, 0) : 5; deathWorth(2, 120, 20000) : 100; clearLives(); 30 x live(10^6)
            deathWorth(29, 120, 20000) : 100; deathWorth(28, 144, 20000) : 100; deathWorth(0, 7, 0) : 7
            """);
        edges.of(26, "`money`", AGES + """
            deathWorth(0, 0, 20000) : 0; deathWorth(0, 1, 0) : 1; deathWorth(0, 10^9, 0) : 10^9; deathWorth(2, 10^9, 0) : 10^9
            """);
        edges.of(26, "`points`", """
            live(9); deathWorth(0, 100001, 0) : 100001; deathWorth(0, 100001, 1) : 100000; deathWorth(0, 119999, 19999) : 100000
            deathWorth(0, 120000, 20000) : 100000
            """);
        edges.of(26, "Returns this, rounded", """
            live(5); each deathWorth(0, 3, 20000) : 3 2 3 2 3 2 2 IllegalState; each deathWorth(0, 9, 20000) : 8 7 8 7 8 7 8 IllegalState
            each deathWorth(0, 10, 20000) : 9 8 9 8 8 8 8 IllegalState; each deathWorth(0, 12, 20000) : 10 10 10 10 10 10 10 10
            """);
        edges.of(26, "Returns this, rounded", """
            30 x live(10^6); each deathWorth(0, 10^9, 20000) : 4212721 4212720 4212721 4212720 4212720 4212720 4212720 IllegalState
            """);
        edges.of(26, "Returns this, rounded", """
            live(10^6); 29 x live(1)
            each deathWorth(0, 10^9, 20000) : 833332505 833332504 833332505 833332504 833332504 833332504 833332504 IllegalState
            """);
    }

    private static void premiums(Edges edges) {
        edges.of(27, "Returns the premium for", AGES + """
            premium(0, 227700, 10000) : 112400; premium(0, 1000, 10000) : 494; premium(2, 120, 20000) : 100
            premium(0, 900, 0) : 500
            """);
        edges.of(27, "`age`", AGES + """
            premium(0, 9, 0) : 5; premium(2, 9, 0) : 9; clearLives(); 30 x live(10^6); premium(0, 30, 0) : 1
            premium(28, 30, 0) : 15; premium(29, 30, 0) : 30
            """);
        edges.of(27, "`money`", AGES + """
            premium(0, 0, 20000) : 0; premium(0, 1, 0) : 1; premium(2, 10^9, 0) : 10^9; premium(0, 10^9, 0) : 555555556
            clearLives(); 30 x live(10^6); premium(0, 10^9, 0) : 33333333
            """);
        edges.of(27, "`points`", """
            live(9); premium(0, 100001, 0) : 100001; premium(0, 100001, 1) : 100000; premium(0, 119999, 19999) : 100000
            premium(0, 120000, 20000) : 100000
            """);
        edges.of(27, "Returns the premium, rounded", """
            live(8); live(8); each premium(0, 5, 0) : 3 2 3 2 3 2 2 IllegalState; each premium(0, 7, 0) : 4 3 4 3 4 3 4 IllegalState
            each premium(1, 10, 20000) : 9 8 9 8 8 8 8 IllegalState; each premium(0, 4, 0) : 2 2 2 2 2 2 2 2
            """);
        edges.of(27, "Returns the premium, rounded", """
            30 x live(10^6); each premium(0, 10^9, 20000) : 705091 705090 705091 705090 705090 705090 705090 IllegalState
            """);
        edges.of(27, "Returns the premium, rounded", """
            live(10^6); 29 x live(1)
            each premium(0, 10^9, 20000) : 833328359 833328358 833328359 833328358 833328359 833328359 833328359 IllegalState
            """);
    }

    private static void reserves(Edges edges) {
        for (String back : new String[] {"true", "false"}) {
            edges.of(28, "Returns what must be kept", AGES + """
                reserve(0, 1, 621000, 10000, BACK) : 148000; reserve(0, 2, 207000, 10000, BACK) : 86000
                reserve(1, 1, 43000, 10000, BACK) : 10000
                reserve(0, 0, 10^9, 10000, BACK) : 0; reserve(2, 0, 10^9, 777, BACK) : 0; reserve(0, 1, 1000, 0, BACK) : 259
                """.replace("BACK", back));
            edges.of(28, "`age`", AGES + """
                reserve(0, 2, 900, 0, BACK) : 400; reserve(1, 1, 900, 0, BACK) : 225; reserve(2, 0, 900, 0, BACK) : 0; clearLives()
                30 x live(10^6)
                reserve(0, 29, 3000, 0, BACK) : 2900; reserve(28, 1, 3000, 0, BACK) : 1500; reserve(29, 0, 3000, 0, BACK) : 0
                """.replace("BACK", back));
            edges.of(28, "`years`", AGES + """
                reserve(0, 0, 900, 0, BACK) : 0; reserve(0, 2, 900, 0, BACK) : 400; reserve(0, 3, 900, 0, BACK) : NoSuchElement
                reserve(0, -1, 900, 0, BACK) : IllegalArgument; clearLives(); 30 x live(9); reserve(0, 29, 30, 0, BACK) : 29
                reserve(0, 30, 30, 0, BACK) : NoSuchElement
                """.replace("BACK", back));
            edges.of(28, "`money`", AGES + """
                reserve(0, 2, 0, 10000, BACK) : 0; reserve(0, 2, 1, 0, BACK) : 0; reserve(0, 2, 10^9, 0, BACK) : 444444444
                clearLives(); 30 x live(10^6)
                reserve(0, 29, 10^9, 20000, BACK) : 832628243; reserve(0, 29, 10^9, 0, BACK) : 966666667
                reserve(0, 1, 10^9, 20000, BACK) : 846108
                """.replace("BACK", back));
            edges.of(28, "`points`", "live(5); live(5)\n" + """
                reserve(0, 1, 200000, 0, BACK) : 100000; reserve(0, 1, 200001, 1, BACK) : 100000
                reserve(0, 1, 219999, 19999, BACK) : 100000
                reserve(0, 1, 220000, 20000, BACK) : 100000
                """.replace("BACK", back));
            edges.of(28, "`isBack`", "live(10^6); 29 x live(1)\n" + """
                reserve(0, 29, 10^9, 20000, BACK) : 4975; reserve(0, 1, 10^9, 20000, BACK) : -4969638717
                reserve(0, 1, 10^9, 0, BACK) : -27999159024
                """.replace("BACK", back));
        }
    }

    private static void roundsReserves(Edges edges) {
        for (String back : new String[] {"true", "false"}) {
            edges.of(28, "Returns this, rounded", """
                live(8); live(8); each reserve(0, 1, 5, 0, BACK) : 3 2 3 2 3 2 2 IllegalState
                each reserve(0, 1, 7, 0, BACK) : 4 3 4 3 4 3 4 IllegalState
                each reserve(0, 1, 4, 0, BACK) : 2 2 2 2 2 2 2 2; each reserve(0, 0, 5, 9, BACK) : 0 0 0 0 0 0 0 0
                """.replace("BACK", back));
            // 1 - 3 / 2 of the money.
            edges.of(28, "Returns this, rounded", """
                live(3); live(1); live(1); live(1); each reserve(0, 1, 5, 0, BACK) : -3 -2 -2 -3 -3 -2 -2 IllegalState
                each reserve(0, 1, 7, 0, BACK) : -4 -3 -3 -4 -4 -3 -4 IllegalState
                each reserve(0, 2, 7, 19, BACK) : -1 0 0 -1 0 0 0 IllegalState
                """.replace("BACK", back));
            edges.of(28, "Returns this, rounded", "live(10^6); 29 x live(1)\n" + """
                each reserve(0, 1, 10^9, 20000, BACK) : -4969638718 -4969638717 -4969638717 -4969638718 -4969638717 -4969638717 -4969638717 IllegalState
                """.replace("BACK", back));
        }
    }

    private static void refusesAllAlike(Edges edges) {
        String[] calls = {"lifeWorth(AGE, MONEY, POINTS)", "deathWorth(AGE, MONEY, POINTS)", "premium(AGE, MONEY, POINTS)",
            "reserve(AGE, 0, MONEY, POINTS, true)", "reserve(AGE, 0, MONEY, POINTS, false)"};
        for (int i = 0; i < calls.length; i++) {
            int promise = Math.min(28, 25 + i);
            StringBuilder range = new StringBuilder(AGES);
            StringBuilder element = new StringBuilder(calls[i].replace("AGE", "0").replace("MONEY", "1").replace("POINTS", "0") + " : NoSuchElement\n" + AGES);
            for (String age : new String[] {"0", "2", "3"}) {
                for (String money : new String[] {"-1", "10^9+1", "long.MAX", "long.MIN"}) {
                    range.append(calls[i].replace("AGE", age).replace("MONEY", money).replace("POINTS", "0") + " : IllegalArgument\n");
                }
                for (String points : new String[] {"-1", "20001", "int.MAX", "int.MIN"}) {
                    range.append(calls[i].replace("AGE", age).replace("MONEY", "5").replace("POINTS", points) + " : IllegalArgument\n");
                }
            }
            for (String age : new String[] {"-1", "3", "30", "int.MAX", "int.MIN"}) {
                element.append(calls[i].replace("AGE", age).replace("MONEY", "5").replace("POINTS", "777") + " : NoSuchElement\n");
            }
            element.append("setMode(EXACT); " + calls[i].replace("AGE", "3").replace("MONEY", "5").replace("POINTS", "777") + " : NoSuchElement\n");
            element.append(calls[i].replace("AGE", "3").replace("MONEY", "-1").replace("POINTS", "777") + " : IllegalArgument\n");
            element.append("clearLives(); 30 x live(9); " + calls[i].replace("AGE", "30").replace("MONEY", "5").replace("POINTS", "777") + " : NoSuchElement\n");
            edges.of(promise, "Throws `IllegalArgumentException`", range.toString());
            edges.of(promise, "Throws `NoSuchElementException`", element.toString());
        }
        edges.of(25, "Throws `IllegalStateException`", AGES + """
            setMode(EXACT); lifeWorth(0, 12100, 10000) : 20700; lifeWorth(0, 12101, 10000) : IllegalState; lifeWorth(0, 0, 1) : 0
            lifeWorth(0, 1, 0) : IllegalState; lifeWorth(2, 1, 19999) : 1
            """);
        edges.of(26, "Throws `IllegalStateException`", AGES + """
            setMode(EXACT); deathWorth(0, 133100, 10000) : 112400; deathWorth(0, 133101, 10000) : IllegalState
            deathWorth(0, 0, 1) : 0; deathWorth(0, 1, 0) : 1; deathWorth(2, 1, 1) : IllegalState
            """);
        edges.of(27, "Throws `IllegalStateException`", AGES + """
            setMode(EXACT); premium(0, 227700, 10000) : 112400; premium(0, 227701, 10000) : IllegalState; premium(0, 0, 1) : 0
            premium(0, 1, 0) : IllegalState; premium(2, 1, 0) : 1
            """);
    }

    private static void refusesReserves(Edges edges) {
        for (String back : new String[] {"true", "false"}) {
            edges.of(28, "Throws `IllegalArgumentException`", AGES + """
                reserve(0, -1, 5, 0, BACK) : IllegalArgument; reserve(2, -1, 5, 0, BACK) : IllegalArgument
                reserve(3, -1, 5, 0, BACK) : IllegalArgument
                reserve(0, int.MIN, 5, 0, BACK) : IllegalArgument; reserve(-1, -1, 5, 0, BACK) : IllegalArgument; setMode(EXACT)
                reserve(1, -1, 5, 777, BACK) : IllegalArgument
                """.replace("BACK", back));
            edges.of(28, "Throws `NoSuchElementException`", AGES + """
                reserve(0, 3, 5, 0, BACK) : NoSuchElement; reserve(1, 2, 5, 0, BACK) : NoSuchElement
                reserve(2, 1, 5, 0, BACK) : NoSuchElement
                reserve(0, int.MAX, 5, 0, BACK) : NoSuchElement; reserve(2, int.MAX, 5, 0, BACK) : NoSuchElement
                reserve(-1, 1, 5, 0, BACK) : NoSuchElement
                reserve(int.MIN, int.MAX, 5, 0, BACK) : NoSuchElement; reserve(int.MAX, int.MAX, 5, 0, BACK) : NoSuchElement
                reserve(-1, 0, 5, 0, BACK) : NoSuchElement
                reserve(0, 3, -1, 0, BACK) : IllegalArgument; reserve(0, 3, 5, 20001, BACK) : IllegalArgument; setMode(EXACT)
                reserve(0, 3, 5, 777, BACK) : NoSuchElement
                """.replace("BACK", back));
            edges.of(28, "Throws `IllegalStateException`", AGES + """
                setMode(EXACT); reserve(0, 1, 621, 10000, BACK) : 148; reserve(0, 1, 622, 10000, BACK) : IllegalState
                reserve(0, 0, 7, 777, BACK) : 0
                reserve(0, 2, 0, 777, BACK) : 0; reserve(0, 2, 9, 0, BACK) : 4; reserve(0, 2, 1, 0, BACK) : IllegalState
                """.replace("BACK", back));
        }
    }

    private static void tables(Edges edges) {
        edges.ofTerms("A table of lives tells", """
            lifeWorth(0, 1, 0) : NoSuchElement; live(10) : 1; lifeWorth(0, 1, 0) : 1; deathWorth(0, 12, 20000) : 10
            lifeWorth(1, 1, 0) : NoSuchElement
            29 x live(10); live(10) : IllegalState; lifeWorth(0, 1, 0) : 30; lifeWorth(29, 1, 0) : 1; deathWorth(29, 12, 20000) : 10
            lifeWorth(30, 1, 0) : NoSuchElement
            """);
        edges.ofTerms("Of those who are left at an age", """
            live(10); live(10); live(4); live(4); deathWorth(0, 1728, 20000) : 1053; deathWorth(1, 1440, 20000) : 1053
            deathWorth(2, 1440, 20000) : 1000
            deathWorth(3, 1440, 20000) : 1200
            """);
        edges.ofTerms("For somebody of an age", """
            live(100); live(50); live(25); lifeWorth(0, 100, 0) : 175; lifeWorth(1, 100, 0) : 150; lifeWorth(2, 100, 0) : 100
            deathWorth(0, 1000, 0) : 1000
            deathWorth(1, 144, 20000) : 110; deathWorth(2, 144, 20000) : 120
            """);
    }

    private static void payments(Edges edges) {
        // One age: the yearly payment is made now, the sum on death a year from now.
        edges.ofTerms("Yearly payments for a life", """
            live(7); lifeWorth(0, 120, 20000) : 120; deathWorth(0, 120, 20000) : 100; live(7); lifeWorth(0, 120, 20000) : 220
            deathWorth(0, 144, 20000) : 100
            lifeWorth(1, 120, 20000) : 120; deathWorth(1, 144, 20000) : 120
            """);
        edges.ofTerms("What they are worth now", """
            live(100); live(60); live(20); setMode(EXACT); lifeWorth(0, 12100, 10000) : 20700; deathWorth(0, 133100, 10000) : 112400
            lifeWorth(0, 5, 0) : 9
            setMode(HALF_EVEN); lifeWorth(0, 1, 10000) : 2; lifeWorth(0, 3, 10000) : 5; deathWorth(0, 1, 10000) : 1
            deathWorth(0, 3, 10000) : 3
            """);
        // It is exact: neither what the sum nor what the life is worth is rounded in between, 844 / 1.711 is 493.3.
        edges.ofTerms("The premium for a sum", """
            live(100); live(60); live(20); each premium(0, 1000, 10000) : 494 493 494 493 494 494 494 IllegalState
            premium(0, 1, 10000) : 0; premium(0, 2, 10000) : 1
            """);
    }

    private static void keeps(Edges edges) {
        // The premium is exact: rounded to 494 it would leave 237.8 looking forward and 239 looking back, not 238.3.
        edges.ofTerms("What must be kept for it", """
            live(100); live(60); live(20); each reserve(0, 1, 1000, 10000, false) : 239 238 239 238 238 238 238 IllegalState
            each reserve(0, 1, 1000, 10000, true) : 239 238 239 238 238 238 238 IllegalState
            """);
        edges.ofTerms("What must be kept for it", """
            30 x live(10^6)
            each reserve(0, 29, 10^9, 20000, false) : 832628243 832628242 832628243 832628242 832628243 832628243 832628243 IllegalState
            each reserve(0, 29, 10^9, 20000, true) : 832628243 832628242 832628243 832628242 832628243 832628243 832628243 IllegalState
            """);
    }
}
