/** The boundary cases that promises 1 to 4 name, a test for each sentence. */
public final class GrammarEdgesTest {
    /** Each of the forms 0 to 7 by a production of its own; the left has two inherited ones. */
    private static final String FORMS = """
            symbol 3 3
            production 0 -1 -1 -1; rule 0 2 0 -123 77
            production 0 -1 -1 -1; rule 1 2 1 0 0
            production 0 -1 -1 -1; rule 2 2 2 0 0
            production 0 -1 -1 -1; rule 3 2 3 0 1
            production 0 -1 -1 -1; rule 4 2 4 0 1
            production 0 -1 -1 -1; rule 5 2 5 0 1
            production 0 -1 -1 -1; rule 6 2 6 0 1
            production 0 -1 -1 -1; rule 7 2 7 0 0
            analyse = 16
            """;

    /** Production 0 is of a symbol with attributes 0 to 2, and one with 0 and 1; 1, 2 and 5 are to be defined. */
    private static final String MIXED = "symbol 3 1; symbol 2 2; production 0 1 -1 -1\n";

    private static final String ARGUMENT = " throws IllegalArgumentException\n";

    public static void main(String[] args) {
        newObjectHasNoSymbols();
        newObjectHasNoProductions();
        newObjectHasNoNodes();
        newObjectHasNoAnalysis();
        newObjectGivesZero();
        attributes0To4();
        inheritedWhoseBitIs1();
        furtherBitsAreNotLookedAt();
        symbolNumbers();
        aSeventhSymbol();
        rightEndsBeforeTheFirstMinus1();
        noSuchSymbolOnTheLeft();
        noSuchSymbolOnTheRight();
        theLastSymbolWillDo();
        somethingBehindAMinus1();
        productionNumbers();
        anEleventhProduction();
        noSuchProductionForARule();
        notToBeDefined();
        noSuchForm();
        noSuchOccurrenceX();
        noSuchOccurrenceY();
        notUsedXAndYMayBeAnything();
        theRuleBeforeIsGone();
        refusedRuleKeepsTheOneBefore();
        numbersAndTokensAtTheEnds();
        sumsWrap();
        differencesWrap();
        productsWrap();
        greaterOneDoesNotWrap();
        tokenSumsWrap();
        analysisAndRunAreGone();
        refusedChangesDropNothing();
        Expect.finish();
    }

    /** P1 "No symbols". */
    private static void newObjectHasNoSymbols() {
        Script.due("P1 no symbols", """
                production 0 -1 -1 -1 throws IllegalArgumentException
                symbol 0 0 = 0
                production 0 -1 -1 -1 = 0
                """);
    }

    /** P1 "No .. productions". */
    private static void newObjectHasNoProductions() {
        Script.due("P1 no productions", """
                symbol 1 0 = 0
                rule 0 0 0 0 0 throws IndexOutOfBoundsException
                node 0 0 -1 -1 -1 throws IllegalArgumentException
                analyse throws IllegalStateException
                production 0 -1 -1 -1 = 0
                """);
    }

    /** P1 "No .. nodes". */
    private static void newObjectHasNoNodes() {
        Script.due("P1 no nodes", Samples.LIST, """
                analyse = 10
                knows 0 0 throws IndexOutOfBoundsException
                value 0 0 throws IndexOutOfBoundsException
                start 0 throws IndexOutOfBoundsException
                node 1 0 0 -1 -1 throws IllegalArgumentException
                node 2 0 -1 -1 -1 = 0
                """);
    }

    /** P1 "no analysis", and so no run and no fault. */
    private static void newObjectHasNoAnalysis() {
        Script.due("P1 no analysis", """
                visits 0 throws IllegalStateException
                rank 0 0 throws IllegalStateException
                instruction 0 0 throws IllegalStateException
                start 0 throws IllegalStateException
                run 0 throws IllegalStateException
                status = 0
                atHand = -1
                fault 0 = 0; fault 1 = -1; fault 2 = -1
                """);
    }

    /** P1 "what is given is 0": each of the four. */
    private static void newObjectGivesZero() {
        Script.due("P1 given 0", """
                symbol 4 15; production 0 -1 -1 -1; node 0 9 -1 -1 -1; analyse = 1; start 0
                value 0 0 = 0; value 0 1 = 0; value 0 2 = 0; value 0 3 = 0
                """);
    }

    /** P2 "IllegalArgumentException if it is not 0 .. 4", and "so many attributes". */
    private static void attributes0To4() {
        Script.due("P2 not 0 .. 4", """
                symbol -1 0 throws IllegalArgumentException
                symbol 5 0 throws IllegalArgumentException
                symbol MIN 0 throws IllegalArgumentException
                symbol MAX 0 throws IllegalArgumentException
                symbol 0 0 = 0
                symbol 4 0 = 1
                """);
        for (int attributes = 0; attributes <= 4; attributes++) {
            StringBuilder rows = new StringBuilder("symbol " + attributes + " 15; production 0 -1 -1 -1; analyse\n");
            for (int attribute = 0; attribute <= 4; attribute++) {
                rows.append("rank 0 ").append(attribute)
                        .append(attribute < attributes ? " = 2\n" : " throws IndexOutOfBoundsException\n");
            }
            Script.due("P2 " + attributes + " attributes", rows.toString());
        }
    }

    /** P2 "those are inherited whose bit is 1": each of the four alone, and all but it. */
    private static void inheritedWhoseBitIs1() {
        for (int bits = 0; bits < 16; bits++) {
            expectInherited("symbol 4 " + bits, 4, bits);
        }
    }

    /** P2 "(further bits are not looked at)". */
    private static void furtherBitsAreNotLookedAt() {
        expectInherited("symbol 4 16", 4, 0);
        expectInherited("symbol 4 -16", 4, 0);
        expectInherited("symbol 4 -1", 4, 15);
        expectInherited("symbol 4 MIN", 4, 0);
        expectInherited("symbol 4 MAX", 4, 15);
        expectInherited("symbol 3 8", 3, 0);
        expectInherited("symbol 2 -2", 2, 2);
        expectInherited("symbol 1 -2", 1, 0);
        expectInherited("symbol 1 -1", 1, 1);
        expectInherited("symbol 0 -1", 0, 0);
    }

    private static void expectInherited(String call, int attributes, int bits) {
        StringBuilder rows = new StringBuilder(call + " = 0; production 0 0 -1 -1\n");
        for (int attribute = 0; attribute < 4; attribute++) {
            boolean there = attribute < attributes;
            boolean inherited = (bits >> attribute & 1) == 1;
            rows.append("rule 0 ").append(attribute).append(" 0 0 0").append(there && !inherited ? "\n" : ARGUMENT);
            rows.append("rule 0 ").append(4 + attribute).append(" 0 0 0").append(there && inherited ? "\n" : ARGUMENT);
        }
        rows.append("analyse\n");
        for (int attribute = 0; attribute < attributes; attribute++) {
            rows.append("rank 0 ").append(attribute).append(" = ").append(1 + (bits >> attribute & 1)).append('\n');
        }
        Script.due("P2 inherited: " + call, rows.toString());
    }

    /** P2 "its number", 0 to 5, which a refused call does not use up. */
    private static void symbolNumbers() {
        Script.due("P2 numbers", """
                symbol 1 0 = 0; symbol 1 0 = 1; symbol 5 0 throws IllegalArgumentException; symbol 1 0 = 2
                symbol 1 0 = 3; symbol -1 0 throws IllegalArgumentException; symbol 1 0 = 4; symbol 1 0 = 5
                """);
    }

    /** P2 "IllegalStateException if there are 6". */
    private static void aSeventhSymbol() {
        Script.due("P2 there are 6", Samples.GOING, """
                symbol 1 0 = 2; symbol 4 15 = 3; symbol 0 0 = 4; symbol 2 3 = 5; analyse = 10; start 2; run 3
                symbol 0 0 throws IllegalStateException
                symbol 4 0 throws IllegalStateException
                symbol 5 0 throws IllegalArgumentException
                symbol -1 0 throws IllegalArgumentException
                production 0 6 -1 -1 throws IllegalArgumentException
                visits 5 = 1
                visits 6 throws IndexOutOfBoundsException
                run 500 = 7
                """);
    }

    /** P3 "its right ends before the first -1": 0 to 3 symbols. */
    private static void rightEndsBeforeTheFirstMinus1() {
        Script.due("P3 0 to 3 on the right", """
                symbol 0 0
                production 0 -1 -1 -1 = 0; production 0 0 -1 -1 = 1; production 0 0 0 -1 = 2; production 0 0 0 0 = 3
                analyse = 10
                """, Samples.sequenceRows(0, 1001), Samples.sequenceRows(1, 101, 1001),
                Samples.sequenceRows(2, 101, 201, 1001), Samples.sequenceRows(3, 101, 201, 301, 1001));
    }

    /** P3 "IllegalArgumentException if there is no such symbol": on the left, where -1 is none either. */
    private static void noSuchSymbolOnTheLeft() {
        Script.due("P3 left", """
                symbol 0 0; symbol 1 0
                production -1 -1 -1 -1 throws IllegalArgumentException
                production -1 0 0 0 throws IllegalArgumentException
                production 2 -1 -1 -1 throws IllegalArgumentException
                production MIN 0 -1 -1 throws IllegalArgumentException
                production MAX 0 -1 -1 throws IllegalArgumentException
                production 0 -1 -1 -1 = 0
                production 1 -1 -1 -1 = 1
                """);
    }

    /** P3 "IllegalArgumentException if there is no such symbol": at each position of the right. */
    private static void noSuchSymbolOnTheRight() {
        for (String wrong : new String[] {"2", "-2", "6", "MIN", "MAX"}) {
            Script.due("P3 right " + wrong, "symbol 0 0; symbol 1 0",
                    "production 0 " + wrong + " -1 -1 throws IllegalArgumentException",
                    "production 0 " + wrong + " 1 1 throws IllegalArgumentException",
                    "production 0 1 " + wrong + " -1 throws IllegalArgumentException",
                    "production 0 1 " + wrong + " 1 throws IllegalArgumentException",
                    "production 0 1 1 " + wrong + " throws IllegalArgumentException",
                    "production 0 1 1 1 = 0");
        }
    }

    private static void theLastSymbolWillDo() {
        Script.due("P3 symbol 5", "symbol 0 0\n".repeat(6), """
                production 6 -1 -1 -1 throws IllegalArgumentException
                production 5 6 -1 -1 throws IllegalArgumentException
                production 5 5 6 -1 throws IllegalArgumentException
                production 5 5 5 6 throws IllegalArgumentException
                production 5 5 5 5 = 0
                production 0 5 0 5 = 1
                """);
    }

    /** P3 "or something is behind a -1": a symbol, or what is none. */
    private static void somethingBehindAMinus1() {
        for (String behind : new String[] {"0", "1", "2", "-2", "MIN", "MAX"}) {
            Script.due("P3 " + behind + " behind a -1", "symbol 0 0; symbol 1 0",
                    "production 0 -1 " + behind + " -1 throws IllegalArgumentException",
                    "production 0 -1 -1 " + behind + " throws IllegalArgumentException",
                    "production 0 -1 " + behind + " 0 throws IllegalArgumentException",
                    "production 0 0 -1 " + behind + " throws IllegalArgumentException",
                    "production 0 0 -1 -1 = 0");
        }
    }

    /** P3 "its number", 0 to 9, which a refused call does not use up. */
    private static void productionNumbers() {
        StringBuilder rows = new StringBuilder("symbol 0 0\n");
        for (int number = 0; number < 10; number++) {
            rows.append("production 0 0 0 0 = ").append(number).append('\n');
            rows.append("production 0 -1 0 0 throws IllegalArgumentException\n");
        }
        Script.due("P3 numbers", rows.toString(), "analyse = 40; instruction 9 3 = 1001");
    }

    /** P3 "IllegalStateException if there are 10". */
    private static void anEleventhProduction() {
        Script.due("P3 there are 10", "symbol 0 0\n", "production 0 -1 -1 -1\n".repeat(10), """
                node 9 0 -1 -1 -1; analyse = 10; start 0
                production 0 -1 -1 -1 throws IllegalStateException
                production 0 0 0 0 throws IllegalStateException
                production 1 -1 -1 -1 throws IllegalArgumentException
                production 0 -1 0 -1 throws IllegalArgumentException
                node 10 0 -1 -1 -1 throws IllegalArgumentException
                instruction 10 0 throws IndexOutOfBoundsException
                status = 1
                run 500 = 1
                """);
    }

    /** P4 "IndexOutOfBoundsException if there is no such production": whatever else is wrong. */
    private static void noSuchProductionForARule() {
        Script.due("P4 no such production", MIXED, "production 0 1 -1 -1", """
                rule -1 1 0 0 0 throws IndexOutOfBoundsException
                rule 2 1 0 0 0 throws IndexOutOfBoundsException
                rule 10 1 0 0 0 throws IndexOutOfBoundsException
                rule MIN 1 0 0 0 throws IndexOutOfBoundsException
                rule MAX 1 0 0 0 throws IndexOutOfBoundsException
                rule 2 -1 8 -1 -1 throws IndexOutOfBoundsException
                rule 0 1 0 0 0
                rule 1 1 0 0 0
                """);
        Script.due("P4 the last of ten", "symbol 1 0\n", "production 0 -1 -1 -1\n".repeat(10), """
                rule 10 0 0 0 0 throws IndexOutOfBoundsException
                rule 9 0 0 0 0
                """);
    }

    /** P4 "IllegalArgumentException if the occurrence is not one to be defined". */
    private static void notToBeDefined() {
        StringBuilder rows = new StringBuilder(MIXED);
        for (int occurrence = -2; occurrence <= 33; occurrence++) {
            boolean due = occurrence == 1 || occurrence == 2 || occurrence == 5;
            rows.append("rule 0 ").append(occurrence).append(" 0 0 0").append(due ? "\n" : ARGUMENT);
        }
        rows.append("rule 0 MIN 0 0 0").append(ARGUMENT).append("rule 0 MAX 0 0 0").append(ARGUMENT);
        rows.append("rule 0 -31 0 0 0").append(ARGUMENT);
        Script.due("P4 not to be defined", rows.toString(), "analyse = 5");
    }

    /** P4 "there is no such form": 0 to 7 are. */
    private static void noSuchForm() {
        Script.due("P4 no such form", MIXED, """
                rule 0 1 -1 0 0 throws IllegalArgumentException
                rule 0 1 8 0 0 throws IllegalArgumentException
                rule 0 1 MIN 0 0 throws IllegalArgumentException
                rule 0 1 MAX 0 0 throws IllegalArgumentException
                rule 0 1 0 0 0; rule 0 1 1 0 0; rule 0 1 2 0 0; rule 0 1 3 0 0
                rule 0 1 4 0 0; rule 0 1 5 0 0; rule 0 1 6 0 0; rule 0 1 7 0 0
                """);
    }

    /** P4 "or no such occurrence that it uses": x, of the forms 2 to 7. */
    private static void noSuchOccurrenceX() {
        for (int form = 2; form <= 7; form++) {
            expectUses("P4 x of form " + form, "rule 0 1 " + form + " # 0");
        }
    }

    /** P4 "or no such occurrence that it uses": y, of the forms 3 to 6. */
    private static void noSuchOccurrenceY() {
        for (int form = 3; form <= 6; form++) {
            expectUses("P4 y of form " + form, "rule 0 1 " + form + " 0 #");
        }
    }

    private static void expectUses(String sentence, String call) {
        StringBuilder rows = new StringBuilder(MIXED);
        String[] missing = {"-1", "3", "6", "7", "8", "12", "15", "16", "32", "MIN", "MAX", "-32"};
        for (String none : missing) {
            rows.append(call.replace("#", none)).append(ARGUMENT);
        }
        for (String there : new String[] {"0", "1", "2", "4", "5"}) {
            rows.append(call.replace("#", there)).append('\n');
        }
        Script.due(sentence, rows.toString());
    }

    /** P4: what a form does not use is no occurrence, and may be any number. */
    private static void notUsedXAndYMayBeAnything() {
        StringBuilder rows = new StringBuilder(MIXED);
        for (String any : new String[] {"-1", "3", "16", "MIN", "MAX"}) {
            rows.append("rule 0 1 0 # #; rule 0 1 1 # #; rule 0 1 2 0 #; rule 0 1 7 0 #\n".replace("#", any));
        }
        Script.due("P4 not used", rows.toString());
    }

    /** P4 "(the one before is gone)": what it led to, and what it answered. */
    private static void theRuleBeforeIsGone() {
        Script.due("P4 the one before is gone", """
                symbol 3 1; production 0 -1 -1 -1; node 0 6 -1 -1 -1
                rule 0 1 2 2 0; rule 0 2 2 1 0; analyse throws UnsupportedOperationException
                rule 0 2 7 0 0; analyse = 3; start 0; run 500 = 3; value 0 1 = 6
                """, Samples.sequenceRows(0, 2, 1, 1001), """
                rule 0 2 2 1 0; rule 0 1 0 8 0; analyse = 3; start 0; run 500 = 3; value 0 2 = 8
                """, Samples.sequenceRows(0, 1, 2, 1001));
    }

    private static void refusedRuleKeepsTheOneBefore() {
        Script.due("P4 refused", """
                symbol 2 1; production 0 -1 -1 -1; rule 0 1 7 0 0; node 0 6 -1 -1 -1; analyse = 2; give 0 30
                rule 0 1 8 0 0 throws IllegalArgumentException
                rule 0 1 2 2 0 throws IllegalArgumentException
                rule 0 1 3 0 2 throws IllegalArgumentException
                analyse = 2; start 0; run 500 = 2; value 0 1 = 36
                """);
    }

    /** P4 "0 the number x; 1 the token; 2 occurrence x": from the least to the greatest int. */
    private static void numbersAndTokensAtTheEnds() {
        for (String end : new String[] {"MIN", "MAX", "-1", "0"}) {
            String due = end.equals("MIN") ? "-2147483648" : end.equals("MAX") ? "2147483647" : end;
            Script.due("P4 number " + end, FORMS, "rule 0 2 0 " + end + " 5; analyse; node 0 1 -1 -1 -1",
                    "start 0; run 1; value 0 2 = " + due);
            Script.due("P4 token " + end, FORMS, "node 1 " + end + " -1 -1 -1; start 0; run 1; value 0 2 = " + due);
            Script.due("P4 copy " + end, FORMS, "node 2 1 -1 -1 -1; give 0 " + end + "; start 0; run 1",
                    "value 0 2 = " + due);
        }
    }

    /** P4 "3 the sum of occurrences x and y .. (all wrap)". */
    private static void sumsWrap() {
        expectForm(3, "MAX", "0", Integer.MAX_VALUE);
        expectForm(3, "MAX", "1", Integer.MIN_VALUE);
        expectForm(3, "MIN", "-1", Integer.MAX_VALUE);
        expectForm(3, "MIN", "MIN", 0);
        expectForm(3, "MAX", "MAX", -2);
    }

    /** P4 "4 x less y .. (all wrap)". */
    private static void differencesWrap() {
        expectForm(4, "5", "3", 2);
        expectForm(4, "MIN", "0", Integer.MIN_VALUE);
        expectForm(4, "MIN", "1", Integer.MAX_VALUE);
        expectForm(4, "MAX", "-1", Integer.MIN_VALUE);
        expectForm(4, "0", "MIN", Integer.MIN_VALUE);
        expectForm(4, "MIN", "MAX", 1);
    }

    /** P4 "5 their product .. (all wrap)". */
    private static void productsWrap() {
        expectForm(5, "MIN", "-1", Integer.MIN_VALUE);
        expectForm(5, "MAX", "-1", -Integer.MAX_VALUE);
        expectForm(5, "MAX", "2", -2);
        expectForm(5, "MAX", "MAX", 1);
        expectForm(5, "65536", "65536", 0);
        expectForm(5, "65537", "65537", 131073);
        expectForm(5, "46341", "46341", -2147479015);
    }

    /** P4 "6 the greater one": also where their difference would wrap. */
    private static void greaterOneDoesNotWrap() {
        expectForm(6, "MIN", "MAX", Integer.MAX_VALUE);
        expectForm(6, "MAX", "MIN", Integer.MAX_VALUE);
        expectForm(6, "MIN", "1", 1);
        expectForm(6, "-1", "MAX", Integer.MAX_VALUE);
        expectForm(6, "-3", "-3", -3);
        expectForm(6, "MIN", "MIN", Integer.MIN_VALUE);
    }

    /** P4 "7 the token and occurrence x added (all wrap)". */
    private static void tokenSumsWrap() {
        expectForm(7, "MAX", "1", Integer.MIN_VALUE);
        expectForm(7, "1", "MAX", Integer.MIN_VALUE);
        expectForm(7, "MIN", "-1", Integer.MAX_VALUE);
        expectForm(7, "MIN", "MIN", 0);
        expectForm(7, "-5", "5", 0);
    }

    /** The value of a form of the given x and y; form 7 has y as its token. */
    private static void expectForm(int form, String x, String y, int due) {
        Script.due("P4 form " + form + " of " + x + " and " + y, FORMS, "give 0 " + x + "; give 1 " + y,
                "node " + form + " " + y + " -1 -1 -1; start 0; run 1 = 1; value 0 2 = " + due);
    }

    /** P2, P3, P4 "Analysis and run are gone": of a run that goes on, and of one that is done. */
    private static void analysisAndRunAreGone() {
        String gone = """
                status = 0; atHand = -1; run 0 throws IllegalStateException
                knows 0 0 = false; knows 1 0 = false; value 1 0 throws IllegalStateException
                visits 0 throws IllegalStateException; rank 0 0 throws IllegalStateException
                instruction 0 0 throws IllegalStateException; start 2 throws IllegalStateException
                fault 0 = 0; node 2 0 -1 -1 -1 = 3
                """;
        String[] changes = {"symbol 0 0 = 2", "production 1 1 1 1 = 3", "rule 0 4 0 11 0", "rule 0 4 0 10 0"};
        for (String change : changes) {
            Script.due("gone by " + change, Samples.GOING, change, gone);
            Script.due("gone behind the end by " + change, Samples.GOING, "run 500 = 7; status = 2", change, gone);
        }
    }

    /** P2, P3, P4: a refused change leaves analysis and run. */
    private static void refusedChangesDropNothing() {
        Script.due("refused changes", Samples.GOING, """
                symbol 5 0 throws IllegalArgumentException
                production 2 -1 -1 -1 throws IllegalArgumentException
                production 0 -1 1 -1 throws IllegalArgumentException
                rule 3 0 0 0 0 throws IndexOutOfBoundsException
                rule 0 5 0 0 0 throws IllegalArgumentException
                rule 0 4 8 0 0 throws IllegalArgumentException
                rule 0 4 2 9 0 throws IllegalArgumentException
                status = 1; atHand = 1; visits 1 = 1; knows 1 0 = true
                run 500 = 7; value 2 0 = 21
                """);
    }
}
