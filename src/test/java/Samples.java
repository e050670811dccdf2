/** Grammars and trees that several tests begin with, as the rows of a Script. */
final class Samples {
    /** A list that hands a number down and sums it up again: symbol 0 has one synthesized attribute. */
    static final String LIST = """
            symbol 1 0; symbol 2 1
            production 0 1 -1 -1; rule 0 0 2 5 0; rule 0 4 0 10 0
            production 1 1 -1 -1; rule 1 1 7 5 0; rule 1 4 7 0 0
            production 1 -1 -1 -1; rule 2 1 7 0 0
            """;

    /** The list, analysed, with the tree 2 - 1 - 0, which takes 10 steps to 21. */
    static final String LIST_WITH_TREE = LIST + """
            node 2 5 -1 -1 -1; node 1 3 0 -1 -1; node 0 0 1 -1 -1
            analyse
            """;

    /** The list with its run on node 1 behind 3 steps. */
    static final String GOING = LIST_WITH_TREE + "start 2; run 3\n";

    /** Symbol 1 needs two visits: attribute 0 leads to 1, that to 2, that to 3. */
    static final String TWO_VISITS = """
            symbol 1 0; symbol 4 5
            production 0 1 -1 -1; rule 0 0 2 7 0; rule 0 4 0 2 0; rule 0 6 3 5 5
            production 1 -1 -1 -1; rule 1 1 7 0 0; rule 1 3 5 0 2
            """;

    /** Three visits: synthesized 0 leads to inherited 1, that to synthesized 2, that to inherited 3. */
    static final String THREE_VISITS = """
            symbol 1 0; symbol 4 10
            production 0 1 -1 -1; rule 0 0 3 4 7; rule 0 5 2 4 0; rule 0 7 2 6 0
            production 1 -1 -1 -1; rule 1 0 1 0 0; rule 1 2 7 1 0
            """;

    /**
     * Not circular and not ordered: each of two children waits for what the other one has only after
     * its own inherited attributes, which the ranks put before all synthesized ones.
     */
    static final String UNORDERED = """
            symbol 0 0; symbol 4 3
            production 1 -1 -1 -1; rule 0 2 2 0 0; rule 0 3 2 1 0
            production 0 1 1 -1; rule 1 4 2 10 0; rule 1 5 0 1 0; rule 1 8 0 1 0; rule 1 9 2 7 0
            """;

    /** A production whose one attribute is synthesized and uses itself. */
    static final String CIRCULAR = "symbol 1 0; production 0 -1 -1 -1; rule 0 0 2 0 0\n";

    private Samples() {
    }

    static VisitGrammar list() {
        return Script.made(LIST);
    }

    static VisitGrammar listWithTree() {
        return Script.made(LIST_WITH_TREE);
    }

    static VisitGrammar twoVisits() {
        return Script.made(TWO_VISITS);
    }

    static VisitGrammar threeVisits() {
        return Script.made(THREE_VISITS);
    }

    static VisitGrammar unordered() {
        return Script.made(UNORDERED);
    }

    /** The sequence of a production as numbers with blanks between. */
    static String sequence(VisitGrammar x, int production) {
        StringBuilder text = new StringBuilder();
        for (int k = 0; k < 40 && x.instruction(production, k) != -1; k++) {
            text.append(k == 0 ? "" : " ").append(x.instruction(production, k));
        }
        return text.toString();
    }

    /** The rows that ask for a production's whole sequence, with what is due. */
    static String sequenceRows(int production, int... due) {
        StringBuilder rows = new StringBuilder();
        for (int k = 0; k <= due.length; k++) {
            rows.append("instruction ").append(production).append(' ').append(k).append(" = ")
                    .append(k < due.length ? due[k] : -1).append('\n');
        }
        return rows.toString();
    }

    /** The rows that ask for the fault, with what is due. */
    static String faultRows(int kind, int production, int occurrence) {
        return "fault 0 = " + kind + "\nfault 1 = " + production + "\nfault 2 = " + occurrence + "\n";
    }

    static String fault(VisitGrammar x) {
        return x.fault(0) + " " + x.fault(1) + " " + x.fault(2);
    }
}
