/** Edges of promises 13 to 19 and 38, and of what the terms say about loans. */
final class LoanEdges {
    private LoanEdges() {
    }

    static void test(Edges edges) {
        lends(edges);
        refusesToLend(edges);
        makesHolidays(edges);
        changesRates(edges);
        tellsEarlyPayments(edges);
        countsRows(edges);
        readsRows(edges);
        addsUp(edges);
        shares(edges);
        instalments(edges);
        interests(edges);
        payments(edges);
        earlyPayments(edges);
        worksOutAsAWhole(edges);
        newRates(edges);
        fullLoan(edges);
    }

    private static void lends(Edges edges) {
        edges.of(13, "Begins a loan", """
            lend(1000, 0, 4) : 250; holiday(1) : true; holiday(3) : true; change(2, 10000) : 4; early(4, 5) : 4; early(2, 5) : 4
            lend(1000, 0, 4) : 250; row(1) : 1000 0 250 250 750 0 250; row(2) : 750 0 250 250 500 0 250; row(3) : 500 0 250 250 250 0 250
            row(4) : 250 0 250 250 0 0 250; rows() : 4; holiday(1) : true; holiday(3) : true
            """);
        // A short loan between two long ones: nothing of the first one comes back.
        edges.of(13, "Begins a loan", """
            lend(6000, 0, 60) : 100; holiday(59) : true; change(60, 20000) : 60; early(60, 9) : 60; early(50, 9) : 60; holiday(40) : true
            lend(10, 0, 1) : 10; rows() : 1; rowOf(2, 0) : NoSuchElement; lend(6000, 0, 60) : 100; rows() : 60; total(1) : 0
            total(2) : 6000
            row(40) : 2100 0 100 100 2000 0 100; row(50) : 1100 0 100 100 1000 0 100; row(59) : 200 0 100 100 100 0 100
            row(60) : 100 0 100 100 0 0 100; holiday(59) : true; holiday(40) : true
            """);
        edges.of(13, "`money`", """
            lend(1, 0, 1) : 1; row(1) : 1 0 1 1 0 0 1; lend(1, 20000, 1) : 1; lend(10^9, 0, 1) : 10^9; row(1) : 10^9 0 10^9 10^9 0 0 10^9
            lend(10^9, 20000, 60) : 200003549; lend(1, 20000, 60) : 0; lend(1, 0, 60) : 0; rows() : 60
            """);
        edges.of(13, "`points`", """
            lend(100000, 0, 1) : 100000; lend(100000, 1, 1) : 100001; lend(100000, 19999, 1) : 119999; lend(100000, 20000, 1) : 120000
            rowOf(1, 5) : 20000; rowOf(1, 1) : 20000
            """);
        edges.of(13, "`periods`", """
            lend(60, 0, 60) : 1; rows() : 60; row(60) : 1 0 1 1 0 0 1; lend(60, 0, 59) : 1; rows() : 59; row(59) : 2 0 2 2 0 0 1
            lend(60, 0, 1) : 60; rows() : 1; lend(60, 0, 2) : 30; rows() : 2
            """);
        edges.of(13, "Returns the instalment", """
            each lend(5, 0, 2) : 3 2 3 2 3 2 2 IllegalState; each lend(7, 0, 2) : 4 3 4 3 4 3 4 IllegalState
            each lend(1000, 10000, 3) : 403 402 403 402 402 402 402 IllegalState
            """);
        edges.of(13, "Returns the instalment", """
            each lend(25, 10000, 1) : 28 27 28 27 28 27 28 IllegalState
            each lend(10^9, 1, 60) : 16671751 16671750 16671751 16671750 16671750 16671750 16671750 IllegalState
            each lend(10^9, 20000, 1) : 1200000000 1200000000 1200000000 1200000000 1200000000 1200000000 1200000000 1200000000
            """);
    }

    private static void refusesToLend(Edges edges) {
        String refused = """
            lend(0, 0, 4) : IllegalArgument; lend(-1, 0, 4) : IllegalArgument; lend(10^9+1, 0, 4) : IllegalArgument
            lend(long.MAX, 0, 4) : IllegalArgument; lend(long.MIN, 0, 4) : IllegalArgument
            lend(1000, -1, 4) : IllegalArgument; lend(1000, 20001, 4) : IllegalArgument
            lend(1000, int.MAX, 4) : IllegalArgument; lend(1000, int.MIN, 4) : IllegalArgument
            lend(1000, 0, 0) : IllegalArgument; lend(1000, 0, -1) : IllegalArgument; lend(1000, 0, 61) : IllegalArgument
            lend(1000, 0, int.MAX) : IllegalArgument; lend(1000, 0, int.MIN) : IllegalArgument
            """;
        edges.of(13, "Throws `IllegalArgumentException`", refused + "rows() : IllegalState");
        edges.of(13, "Throws `IllegalArgumentException`", """
            lend(900, 10000, 3) : 362; holiday(1) : true; change(3, 5) : 3; early(2, 9) : 3
            """ + refused + "rows() : 3; row(1) : 900 90 0 -90 990 10000 362; row(2) : 990 99 371 272 718 10000 362; row(3) : 718 0 718 718 0 5 718");
        edges.of(13, "Throws `IllegalStateException`", """
            setMode(EXACT); lend(1000, 0, 3) : IllegalState; rows() : IllegalState; lend(5, 10000, 1) : IllegalState
            lend(1, 1, 60) : IllegalState
            lend(100, 10000, 1) : 110; lend(100, 0, 3) : IllegalState; row(1) : 100 10 110 100 0 10000 110; lend(999, 0, 3) : 333
            lend(210, 10000, 2) : 121
            lend(210, 10001, 2) : IllegalState; lend(211, 10000, 2) : IllegalState; row(2) : 110 11 121 110 0 10000 121
            """);
    }

    private static void makesHolidays(Edges edges) {
        edges.of(14, "Makes a period", """
            lend(1000, 0, 4); holiday(2) : true; row(2) : 750 0 0 0 750 0 250; row(4) : 500 0 500 500 0 0 250
            holiday(2) : false; row(2) : 750 0 250 250 500 0 250; row(4) : 250 0 250 250 0 0 250; holiday(2) : true
            row(2) : 750 0 0 0 750 0 250
            """);
        edges.of(14, "`period`", """
            lend(1000, 0, 2); holiday(1) : true; rowOf(1, 2) : 0; holiday(0) : IllegalArgument; holiday(2) : IllegalArgument
            lend(1000, 0, 1); holiday(0) : IllegalArgument; holiday(1) : IllegalArgument; holiday(2) : IllegalArgument; rowOf(1, 2) : 1000
            lend(6000, 0, 60); holiday(59) : true; rowOf(59, 2) : 0; holiday(1) : true; rowOf(1, 2) : 0; holiday(60) : IllegalArgument
            holiday(61) : IllegalArgument; holiday(0) : IllegalArgument; row(60) : 300 0 300 300 0 0 100
            """);
        edges.of(14, "Returns whether", """
            lend(1000, 0, 4); holiday(1) : true; holiday(3) : true; holiday(1) : false; holiday(3) : false; holiday(3) : true
            holiday(2) : true
            """);
        edges.of(14, "Throws `IllegalArgumentException`", """
            lend(1000, 0, 4); holiday(2) : true; holiday(4) : IllegalArgument; holiday(5) : IllegalArgument; holiday(-1) : IllegalArgument
            holiday(0) : IllegalArgument; holiday(int.MAX) : IllegalArgument; holiday(int.MIN) : IllegalArgument
            row(4) : 500 0 500 500 0 0 250
            """);
        edges.of(14, "Throws `IllegalStateException`", """
            holiday(1) : IllegalState; holiday(0) : IllegalState; holiday(int.MIN) : IllegalState; setMode(EXACT)
            holiday(99) : IllegalState
            lend(210, 10000, 2); holiday(1) : IllegalState; holiday(2) : IllegalArgument; row(1) : 210 21 121 100 110 10000 121
            lend(1000, 0, 4); holiday(1) : true; lend(1210, 20000, 1) : 1452; holiday(1) : IllegalArgument
            lend(300, 20000, 1) : 360; lend(2200, 20000, 2) : 1440; holiday(1) : true; row(1) : 2200 440 0 -440 2640 20000 1440
            row(2) : 2640 528 3168 2640 0 20000 1440
            """);
        // A holiday that is told by another way can be taken back by EXACT, and not made again.
        edges.of(14, "Throws `IllegalStateException`", """
            setMode(EXACT); lend(210, 10000, 2) : 121; setMode(DOWN); holiday(1) : true; row(2) : 231 23 254 231 0 10000 121; setMode(EXACT)
            holiday(1) : false; row(1) : 210 21 121 100 110 10000 121; holiday(1) : IllegalState; rowOf(1, 2) : 121
            """);
    }

    private static void changesRates(Edges edges) {
        edges.of(15, "Changes the rate", """
            lend(1000, 0, 4); change(3, 10000) : 4; row(2) : 750 0 250 250 500 0 250; row(3) : 500 50 288 238 262 10000 288
            row(4) : 262 26 288 262 0 10000 288; change(3, 20000) : 4; row(3) : 500 100 327 227 273 20000 327; change(3, 0) : 4
            row(3) : 500 0 250 250 250 0 250; row(4) : 250 0 250 250 0 0 250
            """);
        edges.of(15, "`period`", """
            lend(1000, 0, 2); change(2, 10000) : 2; row(2) : 500 50 550 500 0 10000 550; change(1, 0) : IllegalArgument
            change(3, 0) : IllegalArgument
            lend(1000, 0, 1); change(1, 5) : IllegalArgument; change(2, 5) : IllegalArgument; change(0, 5) : IllegalArgument
            lend(6000, 0, 60); change(60, 20000) : 60; row(60) : 100 20 120 100 0 20000 120; change(2, 20000) : 60; rowOf(2, 5) : 20000
            rowOf(1, 5) : 0; change(1, 0) : IllegalArgument; change(61, 0) : IllegalArgument
            """);
        edges.of(15, "`points`", """
            lend(200000, 5, 2); change(2, 0) : 2; rowOf(2, 5) : 0; rowOf(2, 1) : 0; change(2, 20000) : 2; rowOf(2, 5) : 20000
            rowOf(2, 0) : 100002
            rowOf(2, 1) : 20000; change(2, 1) : 2; rowOf(2, 1) : 1; change(2, 19999) : 2; rowOf(2, 1) : 19999
            """);
        edges.of(15, "Returns how many rows", """
            lend(1000, 0, 4); early(1, 750) : 1; change(2, 5) : 1; change(4, 5) : 1; early(1, 0) : 4; change(2, 0) : 4
            lend(10, 0, 6); setMode(UP); early(1, 0) : 5; change(6, 20000) : 5; change(4, 0) : 5; rowOf(4, 6) : 2; change(5, 0) : 6
            rowOf(5, 6) : 1; change(3, 0) : 6
            """);
        edges.of(15, "Throws `IllegalArgumentException`", """
            lend(1000, 0, 4); change(2, 10000) : 4; change(1, 5) : IllegalArgument; change(0, 5) : IllegalArgument
            change(5, 5) : IllegalArgument
            change(-1, 5) : IllegalArgument; change(int.MAX, 5) : IllegalArgument; change(int.MIN, 5) : IllegalArgument
            change(2, -1) : IllegalArgument; change(2, 20001) : IllegalArgument; change(4, 20001) : IllegalArgument
            change(2, int.MAX) : IllegalArgument; change(2, int.MIN) : IllegalArgument; row(2) : 750 75 302 227 523 10000 302
            """);
        edges.of(15, "Throws `IllegalStateException`", """
            change(2, 0) : IllegalState; change(1, 0) : IllegalState; change(2, -1) : IllegalState; change(int.MAX, int.MAX) : IllegalState
            setMode(EXACT); lend(210, 10000, 2); change(2, 10001) : IllegalState; change(2, 20001) : IllegalArgument
            change(3, 10001) : IllegalArgument
            change(1, 10001) : IllegalArgument; row(2) : 110 11 121 110 0 10000 121; change(2, 20000) : 2
            row(2) : 110 22 132 110 0 20000 132
            change(2, 10000) : 2; row(2) : 110 11 121 110 0 10000 121; lend(1000, 0, 4); change(3, 20000) : IllegalState
            change(4, 20000) : 4
            change(4, 1) : IllegalState; row(4) : 250 50 300 250 0 20000 300
            """);
    }

    private static void tellsEarlyPayments(Edges edges) {
        edges.of(16, "Tells an early payment", """
            lend(1000, 0, 4); early(1, 100) : 4; row(1) : 1000 0 350 350 650 0 250; early(1, 200) : 4; row(1) : 1000 0 450 450 550 0 250
            early(2, 50) : 3; row(2) : 550 0 300 300 250 0 250; row(3) : 250 0 250 250 0 0 250; early(1, 0) : 4
            row(1) : 1000 0 250 250 750 0 250
            row(2) : 750 0 300 300 450 0 250; row(4) : 200 0 200 200 0 0 250
            """);
        edges.of(16, "`period`", """
            lend(1000, 0, 4); early(4, 7) : 4; row(4) : 250 0 250 250 0 0 250; early(1, 750) : 1; early(0, 7) : IllegalArgument
            early(5, 7) : IllegalArgument
            lend(1000, 0, 1); early(1, 7) : 1; row(1) : 1000 0 1000 1000 0 0 1000; early(0, 7) : IllegalArgument
            early(2, 7) : IllegalArgument
            lend(6000, 0, 60); early(60, 7) : 60; early(59, 99) : 60; rowOf(60, 2) : 1; early(59, 100) : 59; early(61, 7) : IllegalArgument
            early(0, 7) : IllegalArgument
            """);
        edges.of(16, "`money`", """
            lend(10^9, 20000, 60) : 200003549; early(1, 0) : 60; rowOf(1, 2) : 200003549; early(1, 1) : 60; rowOf(1, 2) : 200003550
            early(1, 10^9) : 1; rowOf(1, 2) : 1200000000; early(1, 999996451) : 1; early(1, 999996450) : 2
            row(2) : 1 0 1 1 0 20000 200003549
            """);
        edges.of(16, "Returns how many rows", """
            lend(1000, 0, 4); early(2, 249) : 4; early(2, 250) : 3; early(2, 251) : 3; early(2, 499) : 3; early(2, 500) : 2
            early(2, 501) : 2
            early(1, 749) : 2; early(1, 750) : 1; early(2, 0) : 1; early(1, 0) : 4
            """);
        edges.of(16, "Throws `IllegalArgumentException`", """
            lend(1000, 0, 4); early(1, 100) : 4; early(0, 5) : IllegalArgument; early(5, 5) : IllegalArgument
            early(-1, 5) : IllegalArgument
            early(int.MAX, 5) : IllegalArgument; early(int.MIN, 5) : IllegalArgument; early(1, -1) : IllegalArgument
            early(1, 10^9+1) : IllegalArgument
            early(1, long.MAX) : IllegalArgument; early(1, long.MIN) : IllegalArgument; row(1) : 1000 0 350 350 650 0 250
            """);
        edges.of(16, "Throws `IllegalStateException`", """
            early(1, 0) : IllegalState; early(0, 0) : IllegalState; early(1, -1) : IllegalState; early(int.MIN, long.MIN) : IllegalState
            setMode(EXACT); lend(210, 10000, 2); early(1, 1) : IllegalState; early(1, 9) : IllegalState; early(1, -1) : IllegalArgument
            early(3, 1) : IllegalArgument; early(0, 1) : IllegalArgument; row(1) : 210 21 121 100 110 10000 121; early(1, 10) : 2
            row(1) : 210 21 131 110 100 10000 121; row(2) : 100 10 110 100 0 10000 121; early(1, 109) : IllegalState; early(1, 110) : 1
            early(2, 1) : 1; early(1, 11) : IllegalState; rows() : 1
            """);
    }

    private static void countsRows(Edges edges) {
        edges.of(17, "Returns the number of rows", "lend(1000, 0, 4); rows() : 4; early(2, 250); rows() : 3; lend(9, 0, 9); rows() : 9");
        edges.of(17, "Returns how many there are", """
            lend(5, 0, 1); rows() : 1; lend(60, 0, 60); rows() : 60; lend(60, 0, 59); rows() : 59; setMode(UP); lend(60, 0, 59); rows() : 30
            lend(1, 0, 60); rows() : 1; setMode(DOWN); lend(1, 0, 60); rows() : 60
            """);
        edges.of(17, "Throws `IllegalStateException`", """
            rows() : IllegalState; lend(0, 0, 1) : IllegalArgument; rows() : IllegalState; setMode(EXACT); rows() : IllegalState
            lend(1, 0, 2) : IllegalState; rows() : IllegalState; lend(2, 0, 2) : 1; rows() : 2
            """);
    }

    private static void readsRows(Edges edges) {
        edges.of(18, "Returns something about a row", "lend(1000, 10000, 3); row(2) : 698 70 402 332 366 10000 402");
        edges.of(18, "`period`", "lend(1000, 0, 4); rowOf(1, 0) : 1000; rowOf(4, 0) : 250; lend(60, 0, 60); rowOf(60, 0) : 1; rowOf(1, 0) : 60");
        edges.of(18, "`what`", """
            lend(1000, 10000, 3); rowOf(3, 0) : 366; rowOf(3, 1) : 37; rowOf(3, 2) : 403; rowOf(3, 3) : 366; rowOf(3, 4) : 0
            rowOf(3, 5) : 10000
            rowOf(3, 6) : 402; change(3, 20000); rowOf(3, 5) : 20000; rowOf(3, 6) : 439; rowOf(2, 5) : 10000; rowOf(2, 6) : 402; holiday(2)
            rowOf(2, 2) : 0; rowOf(2, 3) : -70; rowOf(2, 6) : 402
            """);
        edges.of(18, "Returns this", "lend(10^9, 20000, 1); row(1) : 10^9 200000000 1200000000 10^9 0 20000 1200000000; rowOf(1, 0) : 10^9");
        edges.of(18, "Throws `IllegalArgumentException`", """
            lend(1000, 0, 4); rowOf(1, -1) : IllegalArgument; rowOf(1, 7) : IllegalArgument; rowOf(4, 7) : IllegalArgument
            rowOf(1, int.MAX) : IllegalArgument; rowOf(1, int.MIN) : IllegalArgument; rowOf(5, 7) : IllegalArgument
            rowOf(0, -1) : IllegalArgument
            """);
        edges.of(18, "Throws `NoSuchElementException`", """
            lend(1000, 0, 4); rowOf(0, 0) : NoSuchElement; rowOf(5, 0) : NoSuchElement; rowOf(-1, 6) : NoSuchElement
            rowOf(int.MAX, 0) : NoSuchElement
            rowOf(int.MIN, 0) : NoSuchElement; early(1, 500); rowOf(2, 0) : 250; rowOf(3, 0) : NoSuchElement; early(1, 750)
            rowOf(2, 0) : NoSuchElement
            rowOf(1, 0) : 1000; lend(60, 0, 60); rowOf(60, 6) : 1; rowOf(61, 6) : NoSuchElement; rowOf(0, 6) : NoSuchElement
            """);
        edges.of(18, "Throws `IllegalStateException`", """
            rowOf(1, 0) : IllegalState; rowOf(0, 0) : IllegalState; rowOf(1, 7) : IllegalState; rowOf(1, -1) : IllegalState
            setMode(EXACT); rowOf(1, 0) : IllegalState; lend(10, 0, 5); rowOf(1, 0) : 10
            """);
    }

    private static void addsUp(Edges edges) {
        edges.of(19, "Adds up a column", """
            lend(1000, 10000, 3); total(1) : 207; total(2) : 1207; total(3) : 1000; holiday(1); total(1) : 291; total(2) : 1291
            total(3) : 1000
            early(3, 9); early(2, 808); rows() : 2; total(1) : 210; total(2) : 1210; total(3) : 1000
            """);
        edges.of(19, "`what`", "lend(1000, 10000, 1); total(1) : 100; total(2) : 1100; total(3) : 1000; rowOf(1, 0) : 1000");
        edges.of(19, "Returns the sum", """
            lend(1, 0, 1); total(1) : 0; total(2) : 1; total(3) : 1; lend(1000, 10000, 3); early(1, 10^9); total(1) : 100; total(2) : 1100
            total(3) : 1000; lend(60, 0, 60); total(1) : 0; total(2) : 60; total(3) : 60
            """);
        edges.of(19, "Throws `IllegalArgumentException`", """
            lend(1000, 0, 4); total(0) : IllegalArgument; total(4) : IllegalArgument; total(-1) : IllegalArgument
            total(5) : IllegalArgument
            total(6) : IllegalArgument; total(int.MAX) : IllegalArgument; total(int.MIN) : IllegalArgument
            """);
        edges.of(19, "Throws `IllegalStateException`", """
            total(1) : IllegalState; total(2) : IllegalState; total(3) : IllegalState; total(0) : IllegalState
            total(4) : IllegalState; total(int.MIN) : IllegalState
            """);
    }

    private static void shares(Edges edges) {
        // 207 / 1207, 291 / 1291 and 200000000 / 1200000000, as floats.
        edges.of(38, "Returns the share", "lend(1000, 10000, 3); interestShare() : " + 207f / 1207f + "f; holiday(1); interestShare() : " + 291f / 1291f + "f");
        edges.of(38, "Returns all interests", """
            interestShare() : 0.0f; lend(0, 0, 1) : IllegalArgument; interestShare() : 0.0f; lend(1000, 0, 4); interestShare() : 0.0f
            lend(10^9, 20000, 1); interestShare() : 0.16666667f; lend(3, 20000, 1); interestShare() : 0.25f; early(1, 10^9)
            interestShare() : 0.25f
            lend(50, 1, 1); interestShare() : 0.0f
            """);
        // Both sums are converted before the one is divided by the other: neither each interest, nor the share alone.
        edges.of(38, "Returns all interests", "lend(33968184, 834, 6); total(1) : 998394; total(2) : 34966578; interestShare() : 0.02855281f");
    }

    private static void instalments(Edges edges) {
        edges.ofTerms("A loan is lent for so many periods", """
            lend(1000, 0, 4) : 250; lend(1001, 0, 4) : 250; lend(1002, 0, 4) : 250; lend(1003, 0, 4) : 251; lend(1006, 0, 4) : 252
            lend(10^9, 0, 60) : 16666667
            lend(1100, 10000, 1) : 1210; lend(2100, 10000, 2) : 1210; lend(3310, 10000, 3) : 1331; lend(10^9, 20000, 60) : 200003549
            lend(10^9, 1, 60) : 16671750; lend(10^9, 19999, 60) : 199993551
            """);
        edges.ofTerms("Each row of its table", """
            lend(7, 0, 1); rowOf(1, 0) : 7; rowOf(0, 0) : NoSuchElement; rowOf(2, 0) : NoSuchElement; lend(1000, 10000, 3)
            row(1) : 1000 100 402 302 698 10000 402
            row(2) : 698 70 402 332 366 10000 402; row(3) : 366 37 403 366 0 10000 402; rowOf(4, 0) : NoSuchElement
            """);
        edges.ofTerms("Holidays do not matter", """
            lend(1000, 0, 4); holiday(1); holiday(2); holiday(3); row(1) : 1000 0 0 0 1000 0 250; row(3) : 1000 0 0 0 1000 0 250
            row(4) : 1000 0 1000 1000 0 0 250; holiday(1); holiday(2); change(2, 10000); row(2) : 750 75 302 227 523 10000 302
            row(3) : 523 52 0 -52 575 10000 302; row(4) : 575 58 633 575 0 10000 302; holiday(3); row(2) : 750 75 302 227 523 10000 302
            row(3) : 523 52 302 250 273 10000 302; row(4) : 273 27 300 273 0 10000 302
            """);
        edges.ofTerms("The last period can be no holiday", """
            lend(10, 0, 1); holiday(1) : IllegalArgument; lend(10, 0, 2); holiday(2) : IllegalArgument; holiday(1) : true; lend(60, 0, 60)
            holiday(60) : IllegalArgument; holiday(59) : true; lend(10, 0, 4); early(1, 5); rows() : 3; early(1, 6); rows() : 2
            holiday(2) : true
            holiday(4) : IllegalArgument; holiday(3) : true; row(4) : 2 0 2 2 0 0 2
            """);
    }

    private static void interests(Edges edges) {
        String[] due = {"3 28", "2 27", "3 28", "2 27", "3 28", "2 27", "2 27"};
        StringBuilder script = new StringBuilder();
        for (int mode = 0; mode < due.length; mode++) {
            String[] halves = due[mode].split(" ");
            script.append("setMode(" + mode + "); lend(25, 10000, 1); rowOf(1, 1) : " + halves[0] + "; rowOf(1, 2) : " + halves[1] + "\n");
        }
        edges.ofTerms("The interest is what is left", script.toString());
        edges.ofTerms("The interest is what is left", """
            lend(50000, 1, 1); rowOf(1, 1) : 0; lend(50001, 1, 1); rowOf(1, 1) : 1; lend(150000, 1, 1); rowOf(1, 1) : 2
            lend(149999, 1, 1); rowOf(1, 1) : 1
            lend(10^9, 20000, 2); rowOf(1, 1) : 200000000; rowOf(2, 0) : 545454545; rowOf(2, 1) : 109090909; lend(1000, 0, 2)
            rowOf(2, 1) : 0
            setMode(UP); lend(1, 1, 1); rowOf(1, 1) : 1; lend(1000, 0, 2); rowOf(2, 1) : 0; setMode(DOWN); lend(99999, 1, 1)
            rowOf(1, 1) : 0
            """);
        edges.ofTerms("In a holiday nothing is paid", """
            lend(1000, 10000, 3); holiday(1); row(1) : 1000 100 0 -100 1100 10000 402; holiday(2); row(2) : 1100 110 0 -110 1210 10000 402
            row(3) : 1210 121 1331 1210 0 10000 402; total(2) : 1331
            """);
        edges.ofTerms("What is repaid", """
            lend(1000, 10000, 60) : 100; row(1) : 1000 100 100 0 1000 10000 100; row(59) : 1000 100 100 0 1000 10000 100
            row(60) : 1000 100 1100 1000 0 10000 100
            holiday(1); row(1) : 1000 100 0 -100 1100 10000 100; row(2) : 1100 110 100 -10 1110 10000 100
            row(59) : 24038 2404 100 -2304 26342 10000 100
            row(60) : 26342 2634 28976 26342 0 10000 100; total(3) : 1000; early(2, 11); row(2) : 1100 110 111 1 1099 10000 100
            """);
    }

    private static void payments(Edges edges) {
        // What is left and the interest are a cent less than the instalment, as much, or a cent more.
        edges.ofTerms("Otherwise the instalment is paid", """
            lend(1000, 10000, 3) : 402; early(1, 333) : 2; row(2) : 365 36 401 365 0 10000 402; early(1, 332) : 3
            row(2) : 366 37 402 365 1 10000 402
            row(3) : 1 0 1 1 0 10000 402; setMode(HALF_UP); early(1, 333) : 2; row(2) : 365 37 402 365 0 10000 402
            """);
        edges.ofTerms("Otherwise the instalment is paid", """
            setMode(UP); lend(11, 0, 5) : 3; rows() : 4; row(4) : 2 0 2 2 0 0 3; lend(12, 0, 5) : 3; rows() : 4; row(4) : 3 0 3 3 0 0 3
            lend(13, 0, 5) : 3; rows() : 5; row(4) : 4 0 3 3 1 0 3; row(5) : 1 0 1 1 0 0 3; setMode(DOWN); lend(14, 0, 5) : 2
            row(5) : 6 0 6 6 0 0 2
            setMode(HALF_EVEN); lend(25, 10000, 1) : 28; row(1) : 25 2 27 25 0 10000 28
            """);
        edges.ofTerms("If nothing is left", """
            lend(1000, 0, 4); early(1, 749); rows() : 2; rowOf(2, 4) : 0; rowOf(3, 0) : NoSuchElement; early(1, 750); rows() : 1
            rowOf(1, 4) : 0
            rowOf(2, 0) : NoSuchElement; setMode(UP); lend(12, 0, 5); rows() : 4; rowOf(4, 4) : 0; lend(1, 20000, 60) : 1
            rows() : 60; lend(1, 0, 60); rows() : 1
            lend(1, 20000, 1); row(1) : 1 1 2 1 0 20000 2
            """);
    }

    private static void earlyPayments(Edges edges) {
        edges.ofTerms("Otherwise the instalment is paid", """
            lend(1000, 10000, 3); early(1, 698); row(1) : 1000 100 1100 1000 0 10000 402; rows() : 1; early(1, 699)
            row(1) : 1000 100 1100 1000 0 10000 402
            early(1, 697); row(1) : 1000 100 1099 999 1 10000 402; row(2) : 1 0 1 1 0 10000 402; early(2, 10^9)
            row(2) : 1 0 1 1 0 10000 402
            early(1, 0); row(2) : 698 70 768 698 0 10000 402; rows() : 2; early(2, 0); early(3, 10^9); row(3) : 366 37 403 366 0 10000 402
            """);
        edges.ofTerms("In a holiday no early payment", """
            lend(1000, 0, 4); early(2, 100); row(2) : 750 0 350 350 400 0 250; holiday(2); row(2) : 750 0 0 0 750 0 250
            row(3) : 750 0 250 250 500 0 250
            early(2, 10^9); rows() : 4; row(2) : 750 0 0 0 750 0 250; holiday(2); rows() : 2; row(2) : 750 0 750 750 0 0 250
            holiday(1) : true; early(1, 5) : 2; row(1) : 1000 0 0 0 1000 0 250; row(2) : 1000 0 1000 1000 0 0 250; holiday(1) : false
            row(1) : 1000 0 255 255 745 0 250
            """);
    }

    private static void worksOutAsAWhole(Edges edges) {
        edges.ofTerms("The table is worked out as a whole", """
            lend(1001, 10000, 3) : 403; row(1) : 1001 100 403 303 698 10000 403; setMode(UP)
            row(1) : 1001 100 403 303 698 10000 403; rows() : 3
            early(3, 0); row(1) : 1001 101 403 302 699 10000 403; setMode(DOWN); holiday(0) : IllegalArgument; early(4, 0) : IllegalArgument
            change(1, 0) : IllegalArgument; row(1) : 1001 101 403 302 699 10000 403; holiday(2); row(1) : 1001 100 402 302 699 10000 402
            setMode(UP); change(3, 5); row(1) : 1001 101 403 302 699 10000 403; row(2) : 699 70 0 -70 769 10000 403
            row(3) : 769 1 770 769 0 5 770
            """);
        edges.ofTerms("The table is worked out as a whole", """
            lend(1001, 10000, 3) : 403; setMode(EXACT); rows() : 3; row(3) : 365 36 401 365 0 10000 403; total(1) : 206
            early(3, 1) : IllegalState
            holiday(1) : IllegalState; change(2, 0) : IllegalState; row(3) : 365 36 401 365 0 10000 403; setMode(HALF_EVEN); early(3, 1) : 3
            row(3) : 365 36 401 365 0 10000 403
            """);
        // Where the table ends sooner nothing is rounded, and what is told behind the end counts as soon as it goes on.
        edges.ofTerms("The table is worked out as a whole", """
            lend(1000, 0, 4); early(1, 10^9) : 1; setMode(EXACT); change(3, 19999) : 1; early(2, 1) : 1; holiday(2) : true
            early(1, 0) : IllegalState
            rows() : 1; setMode(HALF_EVEN); early(1, 0) : 4; row(2) : 750 0 0 0 750 0 250; row(3) : 750 150 491 341 409 19999 491
            holiday(2) : false; row(2) : 750 0 251 251 499 0 250
            """);
    }

    private static void newRates(Edges edges) {
        edges.ofTerms("If a rate was changed", """
            lend(1000, 0, 6) : 167; change(6, 0) : 6; change(2, 10000) : 6; change(4, 20000) : 6; row(1) : 1000 0 167 167 833 0 167
            row(2) : 833 83 220 137 696 10000 220; row(3) : 696 70 220 150 546 10000 220; row(4) : 546 109 259 150 396 20000 259
            row(5) : 396 79 259 180 216 20000 259; row(6) : 216 0 216 216 0 0 216; holiday(3); row(2) : 833 83 220 137 696 10000 220
            row(3) : 696 70 0 -70 766 10000 220; row(4) : 766 153 364 211 555 20000 364; row(5) : 555 111 364 253 302 20000 364
            row(6) : 302 0 302 302 0 0 302
            """);
        // The same rate told again works the instalment out anew.
        edges.ofTerms("If a rate was changed", """
            lend(1000, 0, 4); early(1, 375); rows() : 3; change(2, 0) : 4; row(1) : 1000 0 625 625 375 0 250
            row(2) : 375 0 125 125 250 0 125
            row(4) : 125 0 125 125 0 0 125; change(4, 0) : 4; row(4) : 125 0 125 125 0 0 125; holiday(2); row(2) : 375 0 0 0 375 0 125
            row(3) : 375 0 125 125 250 0 125; row(4) : 250 0 250 250 0 0 250
            """);
    }

    /** Each period is a holiday but the last one, each rate is changed, and each period has an early payment. */
    private static void fullLoan(Edges edges) {
        StringBuilder script = new StringBuilder("lend(10^9, 20000, 60) : 200003549\n");
        for (int period = 1; period < 60; period++) {
            script.append("holiday(" + period + ") : true; early(" + period + ", 10^9) : 60; change(" + (period + 1) + ", 20000) : 60\n");
        }
        script.append("early(60, 10^9) : 60; row(1) : 10^9 200000000 0 -200000000 1200000000 20000 200003549\n");
        script.append("row(60) : 46956261951092 9391252390218 56347514341310 46956261951092 0 20000 56347514341310\n");
        script.append("total(1) : 56346514341310; total(2) : 56347514341310; total(3) : 10^9; interestShare() : 0.9999823f; errors(20000) : 0\n");
        script.append("holiday(1) : false; rows() : 1; row(1) : 10^9 200000000 1200000000 10^9 0 20000 200003549; lend(10^9, 20000, 60); total(3) : 10^9");
        edges.of(16, "Returns how many rows", script.toString());
    }
}
