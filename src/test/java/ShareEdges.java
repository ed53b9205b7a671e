/** Edges of promises 29 to 31: parts of a sum. */
final class ShareEdges {
    private ShareEdges() {
    }

    static void test(Edges edges) {
        weighs(edges);
        clears(edges);
        parts(edges);
        partsAtTheEdges(edges);
        refuses(edges);
    }

    private static void weighs(Edges edges) {
        edges.of(29, "Adds somebody", """
            weigh(1) : 1; part(6, 0) : 6; weigh(2) : 2; part(6, 0) : 2; part(6, 1) : 4; weigh(3) : 3; part(6, 0) : 1; part(6, 1) : 2
            part(6, 2) : 3
            """);
        edges.of(29, "`weight`", """
            weigh(0) : 1; weigh(10^6) : 2; weigh(10^6-1) : 3; weigh(1) : 4; part(2000000, 0) : 0; part(2000000, 1) : 10^6
            part(2000000, 2) : 999999; part(2000000, 3) : 1
            """);
        edges.of(29, "Returns how many", "11 x weigh(5); weigh(0) : 12; clearWeights() : 12; weigh(0) : 1; weigh(0) : 2");
        edges.of(29, "Throws `IllegalArgumentException`", """
            weigh(-1) : IllegalArgument; weigh(10^6+1) : IllegalArgument; weigh(int.MAX) : IllegalArgument
            weigh(int.MIN) : IllegalArgument; clearWeights() : 0
            weigh(3) : 1; weigh(-1) : IllegalArgument; weigh(10^6+1) : IllegalArgument; part(9, 0) : 9; part(9, 1) : NoSuchElement
            clearWeights() : 1
            """);
        edges.of(29, "Throws `IllegalStateException`", """
            11 x weigh(1); weigh(2) : 12; weigh(1) : IllegalState; weigh(0) : IllegalState; weigh(-1) : IllegalArgument
            weigh(10^6+1) : IllegalArgument
            part(13, 0) : 1; part(13, 11) : 2; part(13, 12) : NoSuchElement; clearWeights() : 12; weigh(10^6) : 1
            """);
    }

    private static void clears(Edges edges) {
        edges.of(30, "Removes all", """
            weigh(1); weigh(2); clearWeights() : 2; part(5, 0) : NoSuchElement; weigh(7) : 1; part(5, 0) : 5
            part(5, 1) : NoSuchElement
            """);
        edges.of(30, "Returns how many", """
            clearWeights() : 0; weigh(0); clearWeights() : 1; clearWeights() : 0; 12 x weigh(0); clearWeights() : 12
            clearWeights() : 0; weigh(-1) : IllegalArgument; clearWeights() : 0
            """);
    }

    private static void parts(Edges edges) {
        edges.of(31, "Parts money by weights", """
            weigh(1); weigh(1); weigh(1); part(99, 0) : 33; part(99, 2) : 33; part(100, 0) : 34; part(100, 1) : 33; part(100, 2) : 33
            part(101, 0) : 34; part(101, 1) : 34; part(101, 2) : 33; part(1, 0) : 1; part(1, 1) : 0; part(1, 2) : 0; part(2, 1) : 1
            part(2, 2) : 0
            setMode(UP); part(100, 1) : 33; part(100, 0) : 34; setMode(EXACT); part(100, 0) : 34; part(100, 2) : 33
            """);
        // 1.4, 0.4, 0.2 and 2.1, 6.3, 12.6: who lost most, be it the first, or the last one.
        edges.of(31, "Parts money by weights", """
            weigh(7); weigh(2); weigh(1); part(2, 0) : 2; part(2, 1) : 0; part(2, 2) : 0; part(1, 0) : 1; part(1, 2) : 0
            clearWeights(); weigh(1); weigh(3); weigh(6); part(21, 0) : 2; part(21, 1) : 6; part(21, 2) : 13; part(11, 0) : 1
            part(11, 1) : 3; part(11, 2) : 7
            """);
        // 2.5, 5, 2.5 and 0.5 for each of two with one of no weight between: of several the first one; none gets more than a cent.
        edges.of(31, "Parts money by weights", """
            weigh(1); weigh(2); weigh(1); part(10, 0) : 3; part(10, 1) : 5; part(10, 2) : 2; clearWeights(); weigh(0); weigh(1)
            weigh(0); weigh(1)
            part(5, 0) : 0; part(5, 1) : 3; part(5, 2) : 0; part(5, 3) : 2; part(1, 0) : 0; part(1, 1) : 1; part(1, 2) : 0; part(1, 3) : 0
            """);
        edges.of(31, "Parts money by weights", """
            12 x weigh(1); part(11, 0) : 1; part(11, 10) : 1; part(11, 11) : 0; part(12, 11) : 1; part(23, 0) : 2; part(23, 10) : 2
            part(23, 11) : 1
            part(13, 0) : 2; part(13, 1) : 1; clearWeights(); 11 x weigh(10^6); weigh(10^6-1); part(11, 0) : 1; part(11, 10) : 1
            part(11, 11) : 0
            part(1, 0) : 1; part(12, 11) : 1; part(13, 0) : 2; part(13, 11) : 1
            """);
    }

    private static void partsAtTheEdges(Edges edges) {
        edges.of(31, "`money`", """
            weigh(1); weigh(1); weigh(1); part(0, 0) : 0; part(0, 2) : 0; part(1, 0) : 1; part(10^12, 0) : 333333333334
            part(10^12, 1) : 333333333333
            part(10^12-1, 0) : 333333333333; clearWeights(); 12 x weigh(10^6); part(10^12, 0) : 83333333334; part(10^12, 3) : 83333333334
            part(10^12, 4) : 83333333333; part(10^12, 11) : 83333333333; clearWeights(); weigh(10^6); weigh(1)
            part(10^12, 0) : 999999000001; part(10^12, 1) : 999999
            """);
        edges.of(31, "`which`", """
            weigh(5); part(8, 0) : 8; part(8, 1) : NoSuchElement; 10 x weigh(0); weigh(3); part(8, 0) : 5; part(8, 11) : 3
            part(8, 10) : 0; part(8, 12) : NoSuchElement
            """);
        edges.of(31, "Returns their part", """
            weigh(10^6); part(10^12, 0) : 10^12; part(0, 0) : 0; part(1, 0) : 1; weigh(0); part(10^12, 0) : 10^12
            part(10^12, 1) : 0
            """);
    }

    private static void refuses(Edges edges) {
        edges.of(31, "Throws `IllegalArgumentException`", """
            part(-1, 0) : IllegalArgument; part(10^12+1, 0) : IllegalArgument; part(-1, -1) : IllegalArgument; weigh(0) : 1
            part(-1, 0) : IllegalArgument
            weigh(1) : 2; part(-1, 0) : IllegalArgument; part(10^12+1, 1) : IllegalArgument; part(long.MAX, 1) : IllegalArgument
            part(long.MIN, 1) : IllegalArgument
            part(-1, 2) : IllegalArgument; part(10^12+1, int.MAX) : IllegalArgument
            """);
        edges.of(31, "Throws `NoSuchElementException`", """
            part(1, 0) : NoSuchElement; part(0, 0) : NoSuchElement; part(1, -1) : NoSuchElement; weigh(0) : 1
            part(1, 0) : NoSuchElement; part(0, 0) : NoSuchElement
            weigh(0) : 2; part(1, 1) : NoSuchElement; weigh(1) : 3; part(1, 1) : 0; part(1, 2) : 1; part(1, 3) : NoSuchElement
            part(1, -1) : NoSuchElement
            part(1, int.MAX) : NoSuchElement; part(1, int.MIN) : NoSuchElement; clearWeights() : 3; 12 x weigh(0)
            part(5, 11) : NoSuchElement; part(5, 12) : NoSuchElement
            clearWeights() : 12; 12 x weigh(1); part(12, 11) : 1; part(12, 12) : NoSuchElement
            """);
    }
}
