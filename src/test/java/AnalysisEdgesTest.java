/** The boundary cases that promises 5 to 9 name, a test for each sentence. */
public final class AnalysisEdgesTest {
    private static final String NO_ANALYSIS = """
            visits 0 throws IllegalStateException
            rank 0 0 throws IllegalStateException
            instruction 0 0 throws IllegalStateException
            start 0 throws IllegalStateException
            status = 0
            """;

    public static void main(String[] args) {
        shortestSequences();
        longestSequences();
        symbolsWithoutProductions();
        noRunThen();
        throwsIfIncomplete();
        throwsIfThereIsNoProduction();
        throwsIfCircular();
        throwsIfNotOrdered();
        incompleteComesBeforeCircular();
        circularComesBeforeNotOrdered();
        mendedFaults();
        analysedAnew();
        faultOfEachKind();
        firstSuchProduction();
        leastOccurrenceWithoutARule();
        leastOccurrenceThatLeadsToItself();
        eachOccurrenceThatLeadsToItself();
        leastOccurrenceInACircle();
        noFaultIfThereIsNoProduction();
        noFaultIfItDidNotThrow();
        noFaultIfThereWasNone();
        anotherWhat();
        faultOfTheLatest();
        visitsOfSymbols();
        ranksOfAttributes();
        instructionsOfProductions();
        behindTheLastInstruction();
        noAnalysisComesFirst();
        Expect.finish();
    }

    /** P5 "the length of all sequences together": 1 at the least. */
    private static void shortestSequences() {
        Script.due("P5 one LEAVE", "symbol 0 0; production 0 -1 -1 -1; analyse = 1", Samples.sequenceRows(0, 1001));
        Script.due("P5 ten LEAVEs", "symbol 4 15\n", "production 0 -1 -1 -1\n".repeat(10), "analyse = 10");
    }

    /** P5 "the length of all sequences together": 20 of each of 10 productions, as long as can be. */
    private static void longestSequences() {
        StringBuilder sets = new StringBuilder("symbol 4 0; symbol 4 15\n");
        StringBuilder visits = new StringBuilder("symbol 4 10\n".repeat(6));
        for (int production = 0; production < 10; production++) {
            sets.append("production 0 1 1 1\n");
            for (int occurrence = 15; occurrence >= 0; occurrence--) {
                sets.append("rule # ".replace("#", "" + production)).append(occurrence).append(" 1 0 0\n");
            }
            visits.append("""
                    production 5 5 5 5
                    rule # 0 2 4 0; rule # 2 3 6 1; rule # 5 2 4 0; rule # 7 2 6 0
                    rule # 9 2 8 0; rule # 11 2 10 0; rule # 13 2 12 0; rule # 15 2 14 0
                    """.replace("#", "" + production));
        }
        Script.due("P5 16 SETs each", sets.toString(), "analyse = 200",
                Samples.sequenceRows(9, 0, 1, 2, 3, 4, 5, 6, 7, 8, 9, 10, 11, 12, 13, 14, 15, 101, 201, 301, 1001));
        Script.due("P5 3 visits each", visits.toString(), "analyse = 200; visits 5 = 3", Samples.sequenceRows(9,
                101, 0, 5, 102, 7, 103, 201, 9, 202, 11, 203, 301, 13, 302, 15, 303, 1001, 2, 1002, 1003));
    }

    /** P5: a symbol that is in no production adds nothing, and has ranks and visits. */
    private static void symbolsWithoutProductions() {
        Script.due("P5 symbols add nothing", Samples.LIST, """
                symbol 0 15; symbol 1 1; symbol 2 0; symbol 4 15
                analyse = 10
                visits 2 = 1; visits 3 = 1; visits 4 = 1; visits 5 = 1
                rank 3 0 = 2; rank 4 1 = 1; rank 5 3 = 2
                """);
    }

    /** P5 "There is no run then": of a run that has just begun, goes on, or is done. */
    private static void noRunThen() {
        for (int steps : new int[] {0, 3, 10}) {
            Script.due("P5 no run then", Samples.LIST_WITH_TREE, "start 2; run " + steps, """
                    analyse = 10
                    status = 0; atHand = -1; knows 1 0 = false; value 1 0 throws IllegalStateException
                    run 0 throws IllegalStateException; run 1 throws IllegalStateException
                    visits 1 = 1
                    start 2; run 500 = 10
                    """);
        }
    }

    /** P5 "IllegalStateException if it is incomplete", "(If it throws, there is no analysis then.)". */
    private static void throwsIfIncomplete() {
        Script.due("P5 incomplete", Samples.LIST_WITH_TREE, "start 2; production 0 -1 -1 -1",
                "analyse throws IllegalStateException", NO_ANALYSIS, "analyse throws IllegalStateException");
    }

    /** P5 "IllegalStateException if .. there is no production": with no symbols, and with 6. */
    private static void throwsIfThereIsNoProduction() {
        Script.due("P5 nothing", "analyse throws IllegalStateException", NO_ANALYSIS);
        Script.due("P5 symbols alone", "symbol 1 0\n".repeat(6), "analyse throws IllegalStateException", NO_ANALYSIS,
                "production 0 -1 -1 -1; rule 0 0 1 0 0; analyse = 2");
    }

    /** P5 "UnsupportedOperationException if it is circular", "(If it throws, there is no analysis then.)". */
    private static void throwsIfCircular() {
        Script.due("P5 circular", Samples.LIST_WITH_TREE, "start 2; rule 2 1 3 0 1",
                "analyse throws UnsupportedOperationException", NO_ANALYSIS,
                "analyse throws UnsupportedOperationException");
    }

    /** P5 "or some occurrences are not ordered", "(If it throws, there is no analysis then.)". */
    private static void throwsIfNotOrdered() {
        Script.due("P5 not ordered", Samples.UNORDERED, "rule 1 9 0 1 0; node 0 1 -1 -1 -1; analyse; start 0",
                "rule 1 9 2 7 0; analyse throws UnsupportedOperationException", NO_ANALYSIS,
                "analyse throws UnsupportedOperationException");
    }

    /** P5: an incomplete analysis throws IllegalStateException, though there is a circle before it. */
    private static void incompleteComesBeforeCircular() {
        Script.due("P5 incomplete and circular", Samples.CIRCULAR, """
                production 0 -1 -1 -1
                analyse throws IllegalStateException
                """, Samples.faultRows(1, 1, 0), """
                rule 1 0 1 0 0
                analyse throws UnsupportedOperationException
                """, Samples.faultRows(2, 0, 0));
    }

    /** P6 "2 circular, 3 not ordered": a circle is told, though an earlier production is not ordered. */
    private static void circularComesBeforeNotOrdered() {
        Script.due("P6 circular and not ordered", Samples.UNORDERED, """
                symbol 1 0; production 2 -1 -1 -1; rule 2 0 2 0 0
                analyse throws UnsupportedOperationException
                """, Samples.faultRows(2, 2, 0), """
                rule 2 0 1 0 0
                analyse throws UnsupportedOperationException
                """, Samples.faultRows(3, 1, 4));
    }

    /** P5: once the fault is mended there is an analysis again. */
    private static void mendedFaults() {
        Script.due("P5 mended", Samples.LIST_WITH_TREE, """
                rule 2 1 2 1 0
                analyse throws UnsupportedOperationException
                rule 2 1 7 0 0
                visits 1 throws IllegalStateException
                analyse = 10
                visits 1 = 1; start 2; run 500 = 10; value 2 0 = 21
                """);
    }

    /** P5: nothing of the analysis before is left, with fewer visits and with more. */
    private static void analysedAnew() {
        String many = """
                rule 0 5 2 4 0; rule 0 7 2 6 0; analyse = 12
                visits 1 = 3; rank 1 0 = 5; rank 1 1 = 4; rank 1 2 = 3; rank 1 3 = 2
                """ + Samples.sequenceRows(1, 0, 1001, 2, 1002, 1003);
        String few = """
                rule 0 5 0 1 0; rule 0 7 0 1 0; analyse = 8
                visits 1 = 1; rank 1 0 = 1; rank 1 1 = 2; rank 1 2 = 1; rank 1 3 = 2
                """ + Samples.sequenceRows(1, 0, 2, 1001);
        Script.due("P5 anew", Samples.THREE_VISITS, many, few, many, few);
    }

    /** P6 "1 incomplete, 2 circular, 3 not ordered (what = 0)". */
    private static void faultOfEachKind() {
        Script.due("P6 incomplete", "symbol 1 0; production 0 -1 -1 -1; analyse throws IllegalStateException",
                "fault 0 = 1");
        Script.due("P6 circular", Samples.CIRCULAR, "analyse throws UnsupportedOperationException; fault 0 = 2");
        Script.due("P6 not ordered", Samples.UNORDERED, "analyse throws UnsupportedOperationException; fault 0 = 3");
    }

    /** P6 "the first such production (1)": of ten, the last, and then an earlier one. */
    private static void firstSuchProduction() {
        StringBuilder all = new StringBuilder("symbol 1 0\n");
        for (int production = 0; production < 10; production++) {
            all.append("production 0 -1 -1 -1\n");
            all.append(production == 9 || production == 4 ? "" : "rule " + production + " 0 1 0 0\n");
        }
        Script.due("P6 first incomplete production", all.toString(),
                "analyse throws IllegalStateException", Samples.faultRows(1, 4, 0), "rule 4 0 1 0 0",
                "analyse throws IllegalStateException", Samples.faultRows(1, 9, 0), "rule 9 0 1 0 0",
                "analyse = 20", Samples.faultRows(0, -1, -1));
        Script.due("P6 first circular production", all.toString(), "rule 4 0 2 0 0; rule 9 0 2 0 0",
                "analyse throws UnsupportedOperationException", Samples.faultRows(2, 4, 0), "rule 4 0 1 0 0",
                "analyse throws UnsupportedOperationException", Samples.faultRows(2, 9, 0), "rule 9 0 1 0 0",
                "analyse = 20", Samples.faultRows(0, -1, -1));
        Script.due("P6 first production that is not ordered", Samples.UNORDERED,
                "production 0 0 1 1; rule 2 8 2 14 0; rule 2 9 0 1 0; rule 2 12 0 1 0; rule 2 13 2 11 0",
                "analyse throws UnsupportedOperationException", Samples.faultRows(3, 1, 4), "rule 1 9 0 1 0",
                "analyse throws UnsupportedOperationException", Samples.faultRows(3, 2, 8), "rule 2 13 0 1 0",
                "analyse = 18", Samples.faultRows(0, -1, -1));
    }

    /** P6 "the least occurrence without a rule": from 0 to 15, as each gets its rule. */
    private static void leastOccurrenceWithoutARule() {
        StringBuilder rows = new StringBuilder("symbol 4 0; symbol 4 15; production 0 1 1 1\n");
        for (int occurrence = 0; occurrence < 16; occurrence++) {
            rows.append("analyse throws IllegalStateException\n").append(Samples.faultRows(1, 0, occurrence));
            rows.append("rule 0 ").append(occurrence).append(" 0 1 0\n");
        }
        Script.due("P6 least without a rule", rows.toString(), "analyse = 20", Samples.faultRows(0, -1, -1));
    }

    /** P6 "the least occurrence .. that leads to itself": not one that only leads there, nor one behind. */
    private static void leastOccurrenceThatLeadsToItself() {
        Script.due("P6 least in the circle of leads", """
                symbol 1 0; symbol 1 1; production 0 1 1 1
                rule 0 0 2 4 0; rule 0 4 2 8 0; rule 0 8 2 12 0; rule 0 12 2 12 0
                analyse throws UnsupportedOperationException
                """, Samples.faultRows(2, 0, 12), """
                rule 0 12 2 8 0
                analyse throws UnsupportedOperationException
                """, Samples.faultRows(2, 0, 8), """
                rule 0 12 2 4 0
                analyse throws UnsupportedOperationException
                """, Samples.faultRows(2, 0, 4), """
                rule 0 12 2 0 0
                analyse throws UnsupportedOperationException
                """, Samples.faultRows(2, 0, 0), """
                rule 0 12 1 0 0
                analyse = 8
                """);
    }

    /** P6 "the least occurrence .. that leads to itself": from 0 to 15, where no other one does. */
    private static void eachOccurrenceThatLeadsToItself() {
        StringBuilder rows = new StringBuilder("symbol 4 0; symbol 4 15; symbol 4 15; symbol 4 15\n");
        rows.append("production 0 1 2 3\n");
        for (int occurrence = 0; occurrence < 16; occurrence++) {
            rows.append("rule 0 ").append(occurrence).append(" 1 0 0\n");
        }
        for (int occurrence = 0; occurrence < 16; occurrence++) {
            rows.append("rule 0 # 2 # 0\n".replace("#", "" + occurrence));
            rows.append("analyse throws UnsupportedOperationException\n").append(Samples.faultRows(2, 0, occurrence));
            rows.append("rule 0 # 1 0 0\n".replace("#", "" + occurrence));
        }
        Script.due("P6 each that leads to itself", rows.toString(), "analyse = 20", Samples.faultRows(0, -1, -1));
    }

    /** P6 "or that lies in a circle (2)": not the left's, which only waits for it. */
    private static void leastOccurrenceInACircle() {
        Script.due("P6 least in the circle of order", Samples.UNORDERED, """
                symbol 1 0; production 2 2 1 1; rule 2 0 2 11 0
                rule 2 8 2 14 0; rule 2 9 0 1 0; rule 2 12 0 1 0; rule 2 13 2 11 0
                rule 1 9 0 1 0
                analyse throws UnsupportedOperationException
                """, Samples.faultRows(3, 2, 8));
    }

    /** P6 "0, -1, -1 if there is no production". */
    private static void noFaultIfThereIsNoProduction() {
        Script.due("P6 no production", "symbol 1 0; analyse throws IllegalStateException",
                Samples.faultRows(0, -1, -1), "production 0 -1 -1 -1", Samples.faultRows(0, -1, -1));
    }

    /** P6 "0, -1, -1 if .. it did not throw". */
    private static void noFaultIfItDidNotThrow() {
        Script.due("P6 did not throw", Samples.LIST, "analyse = 10", Samples.faultRows(0, -1, -1));
    }

    /** P6 "0, -1, -1 if .. there was none". */
    private static void noFaultIfThereWasNone() {
        Script.due("P6 new", Samples.faultRows(0, -1, -1));
        Script.due("P6 not analysed", Samples.CIRCULAR, Samples.faultRows(0, -1, -1));
    }

    /** P6 "-1 for another what": in each state, and without throwing. */
    private static void anotherWhat() {
        String others = "fault -1 = -1; fault 3 = -1; fault 4 = -1; fault MIN = -1; fault MAX = -1\n";
        Script.due("P6 new", others);
        Script.due("P6 analysed", Samples.LIST, "analyse", others);
        Script.due("P6 incomplete", "symbol 1 0; production 0 -1 -1 -1; analyse throws IllegalStateException", others);
        Script.due("P6 circular", Samples.CIRCULAR, "analyse throws UnsupportedOperationException", others);
        Script.due("P6 not ordered", Samples.UNORDERED, "analyse throws UnsupportedOperationException", others);
    }

    /** P6 "Why the latest analyse() threw": whatever came since, until the next one. */
    private static void faultOfTheLatest() {
        Script.due("P6 latest", Samples.LIST, """
                analyse = 10
                production 0 -1 -1 -1
                """, Samples.faultRows(0, -1, -1), "analyse throws IllegalStateException", Samples.faultRows(1, 3, 0),
                "rule 3 0 2 0 0", Samples.faultRows(1, 3, 0), "symbol 1 0; fell", Samples.faultRows(1, 3, 0),
                "rule 3 1 0 0 0 throws IllegalArgumentException", Samples.faultRows(1, 3, 0),
                "analyse throws UnsupportedOperationException", Samples.faultRows(2, 3, 0),
                "rule 3 0 0 5 0", Samples.faultRows(2, 3, 0), "analyse = 12", Samples.faultRows(0, -1, -1));
    }

    /** P7 "IndexOutOfBoundsException if there is no such symbol". */
    private static void visitsOfSymbols() {
        Script.due("P7 of 2 symbols", Samples.LIST, """
                analyse
                visits -1 throws IndexOutOfBoundsException
                visits 0 = 1; visits 1 = 1
                visits 2 throws IndexOutOfBoundsException
                visits MIN throws IndexOutOfBoundsException
                visits MAX throws IndexOutOfBoundsException
                """);
        Script.due("P7 of 6 symbols", "symbol 0 0\n".repeat(6), """
                production 0 -1 -1 -1; analyse
                visits 5 = 1
                visits 6 throws IndexOutOfBoundsException
                """);
    }

    /** P8 "IndexOutOfBoundsException if there is no such symbol or attribute". */
    private static void ranksOfAttributes() {
        Script.due("P8 of 4 symbols", Samples.LIST, """
                symbol 0 0; symbol 4 15; analyse
                rank -1 0 throws IndexOutOfBoundsException
                rank 0 0 = 1
                rank 0 -1 throws IndexOutOfBoundsException
                rank 0 1 throws IndexOutOfBoundsException
                rank 1 1 = 1
                rank 1 2 throws IndexOutOfBoundsException
                rank 2 0 throws IndexOutOfBoundsException
                rank 2 -1 throws IndexOutOfBoundsException
                rank 3 3 = 2
                rank 3 4 throws IndexOutOfBoundsException
                rank 3 MIN throws IndexOutOfBoundsException
                rank 3 MAX throws IndexOutOfBoundsException
                rank 4 0 throws IndexOutOfBoundsException
                rank MIN 0 throws IndexOutOfBoundsException
                rank MAX 0 throws IndexOutOfBoundsException
                """);
        Script.due("P8 of 6 symbols", "symbol 4 0\n".repeat(6), """
                symbol 0 0 throws IllegalStateException
                production 0 0 -1 -1; rule 0 0 1 0 0; rule 0 1 1 0 0; rule 0 2 1 0 0; rule 0 3 1 0 0; analyse
                rank 5 3 = 1
                rank 5 4 throws IndexOutOfBoundsException
                rank 6 0 throws IndexOutOfBoundsException
                """);
    }

    /** P9 "IndexOutOfBoundsException if there is no such production, or k is below 0". */
    private static void instructionsOfProductions() {
        Script.due("P9 of 3 productions", Samples.LIST, """
                analyse
                instruction -1 0 throws IndexOutOfBoundsException
                instruction 0 0 = 4
                instruction 2 0 = 1
                instruction 3 0 throws IndexOutOfBoundsException
                instruction MIN 0 throws IndexOutOfBoundsException
                instruction MAX 0 throws IndexOutOfBoundsException
                instruction 0 -1 throws IndexOutOfBoundsException
                instruction 0 MIN throws IndexOutOfBoundsException
                instruction 3 -1 throws IndexOutOfBoundsException
                instruction 3 99 throws IndexOutOfBoundsException
                """);
        Script.due("P9 of 10 productions", "symbol 0 0\n", "production 0 -1 -1 -1\n".repeat(10), """
                analyse
                instruction 9 0 = 1001
                instruction 10 0 throws IndexOutOfBoundsException
                """);
    }

    /** P9 "-1 behind the last one": from the first behind it to the greatest int. */
    private static void behindTheLastInstruction() {
        Script.due("P9 behind the last one", Samples.LIST, """
                analyse
                instruction 0 3 = 1001; instruction 0 4 = -1
                instruction 1 4 = -1; instruction 1 31 = -1; instruction 1 32 = -1; instruction 1 33 = -1
                instruction 2 1 = 1001; instruction 2 2 = -1; instruction 2 20 = -1; instruction 2 320 = -1
                instruction 2 MAX = -1
                """);
    }

    /** P7, P8, P9 "IllegalStateException if there is no analysis": whatever else is wrong. */
    private static void noAnalysisComesFirst() {
        Script.due("no analysis", Samples.LIST, """
                visits 1 throws IllegalStateException; visits 2 throws IllegalStateException
                visits -1 throws IllegalStateException
                rank 1 1 throws IllegalStateException; rank 2 0 throws IllegalStateException
                rank 0 -1 throws IllegalStateException
                instruction 0 0 throws IllegalStateException; instruction 3 0 throws IllegalStateException
                instruction 0 -1 throws IllegalStateException
                analyse = 10
                """);
    }
}
