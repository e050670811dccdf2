/** Grammars and trees that several tests begin with. */
final class Samples {
    private Samples() {
    }

    /** A list that hands a number down and sums it up again: symbol 0 has one synthesized attribute. */
    static VisitGrammar list() {
        VisitGrammar x = new VisitGrammar();
        x.symbol(1, 0);
        x.symbol(2, 1);
        x.production(0, 1, -1, -1);
        x.production(1, 1, -1, -1);
        x.production(1, -1, -1, -1);
        x.rule(0, 0, 2, 5, 0);
        x.rule(0, 4, 0, 10, 0);
        x.rule(1, 1, 7, 5, 0);
        x.rule(1, 4, 7, 0, 0);
        x.rule(2, 1, 7, 0, 0);
        return x;
    }

    /** The list, analysed, on the tree 2 - 1 - 0. */
    static VisitGrammar listWithTree() {
        VisitGrammar x = list();
        x.node(2, 5, -1, -1, -1);
        x.node(1, 3, 0, -1, -1);
        x.node(0, 0, 1, -1, -1);
        x.analyse();
        return x;
    }

    /** Symbol 1 needs two visits: attribute 0 leads to 1, that to 2, that to 3. */
    static VisitGrammar twoVisits() {
        VisitGrammar x = new VisitGrammar();
        x.symbol(1, 0);
        x.symbol(4, 5);
        x.production(0, 1, -1, -1);
        x.rule(0, 0, 2, 7, 0);
        x.rule(0, 4, 0, 2, 0);
        x.rule(0, 6, 3, 5, 5);
        x.production(1, -1, -1, -1);
        x.rule(1, 1, 7, 0, 0);
        x.rule(1, 3, 5, 0, 2);
        return x;
    }

    /** Three visits: synthesized 0 leads to inherited 1, that to synthesized 2, that to inherited 3. */
    static VisitGrammar threeVisits() {
        VisitGrammar x = new VisitGrammar();
        x.symbol(1, 0);
        x.symbol(4, 10);
        x.production(0, 1, -1, -1);
        x.rule(0, 0, 3, 4, 7);
        x.rule(0, 5, 2, 4, 0);
        x.rule(0, 7, 2, 6, 0);
        x.production(1, -1, -1, -1);
        x.rule(1, 0, 1, 0, 0);
        x.rule(1, 2, 7, 1, 0);
        return x;
    }

    /**
     * Not circular and not ordered: each of two children waits for what the other one has only after
     * its own inherited attributes, which the ranks put before all synthesized ones.
     */
    static VisitGrammar unordered() {
        VisitGrammar x = new VisitGrammar();
        x.symbol(0, 0);
        x.symbol(4, 3);
        x.production(1, -1, -1, -1);
        x.rule(0, 2, 2, 0, 0);
        x.rule(0, 3, 2, 1, 0);
        x.production(0, 1, 1, -1);
        x.rule(1, 4, 2, 10, 0);
        x.rule(1, 5, 0, 1, 0);
        x.rule(1, 8, 0, 1, 0);
        x.rule(1, 9, 2, 7, 0);
        return x;
    }

    /** The sequence of a production as numbers with blanks between. */
    static String sequence(VisitGrammar x, int production) {
        StringBuilder text = new StringBuilder();
        for (int k = 0; k < 40 && x.instruction(production, k) != -1; k++) {
            text.append(k == 0 ? "" : " ").append(x.instruction(production, k));
        }
        return text.toString();
    }

    static String fault(VisitGrammar x) {
        return x.fault(0) + " " + x.fault(1) + " " + x.fault(2);
    }
}
