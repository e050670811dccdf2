/** Promises 5 to 9 on ordinary grammars; AnalysisEdgesTest has their edges. */
public final class AnalysisTest {
    public static void main(String[] args) {
        lengths();
        circular();
        circularThroughSymbols();
        circularAcrossPositions();
        notOrdered();
        notOrderedByLeads();
        visitsAndRanks();
        ranksOfLeads();
        sequences();
        leavesInBetween();
        lastLeaveWaits();
        Expect.finish();
    }

    private static void lengths() {
        Expect.equal("P5 list", 10, Samples.list().analyse());
        Expect.equal("P5 two visits", 10, Samples.twoVisits().analyse());
        Expect.equal("P5 three visits", 12, Samples.threeVisits().analyse());
        VisitGrammar x = Samples.list();
        Expect.equal("P5 once", 10, x.analyse());
        Expect.equal("P5 twice", 10, x.analyse());
    }

    private static void circular() {
        VisitGrammar x = new VisitGrammar();
        x.symbol(4, 0);
        x.production(0, -1, -1, -1);
        x.rule(0, 0, 2, 1, 0);
        x.rule(0, 1, 3, 3, 2);
        x.rule(0, 2, 2, 3, 0);
        x.rule(0, 3, 4, 3, 1);
        Expect.unsupportedThrown("P5 circular", () -> x.analyse());
        Expect.same("P6 the least one in the circle, not one behind it", "2 0 1", Samples.fault(x));
    }

    /** The circle of production 1 comes only from what production 2 adds to the symbol. */
    private static void circularThroughSymbols() {
        VisitGrammar x = new VisitGrammar();
        x.symbol(1, 0);
        x.symbol(2, 1);
        x.production(0, -1, -1, -1);
        x.rule(0, 0, 1, 0, 0);
        x.production(0, 1, -1, -1);
        x.rule(1, 0, 0, 0, 0);
        x.rule(1, 4, 2, 5, 0);
        x.production(1, -1, -1, -1);
        x.rule(2, 1, 1, 0, 0);
        Expect.equal("P5 without the circle", 2 + 5 + 3, x.analyse());
        x.rule(2, 1, 2, 0, 0);
        Expect.unsupportedThrown("P5 with it", () -> x.analyse());
        Expect.same("P6 with it", "2 1 4", Samples.fault(x));
    }

    private static void circularAcrossPositions() {
        VisitGrammar x = new VisitGrammar();
        x.symbol(1, 1);
        x.production(0, 0, -1, -1);
        x.rule(0, 4, 2, 0, 0);
        x.production(0, 0, 0, 0);
        x.rule(1, 4, 2, 0, 0);
        x.rule(1, 8, 2, 12, 0);
        x.rule(1, 12, 2, 8, 0);
        Expect.unsupportedThrown("P5 two positions use one another", () -> x.analyse());
        Expect.same("P6 two positions use one another", "2 1 8", Samples.fault(x));
    }

    private static void notOrdered() {
        VisitGrammar x = Samples.unordered();
        Expect.unsupportedThrown("P5 not ordered", () -> x.analyse());
        Expect.same("P6 not ordered", "3 1 4", Samples.fault(x));
        Expect.stateThrown("P5 there is no analysis then", () -> x.rank(1, 0));
        x.rule(1, 9, 0, 1, 0);
        Expect.equal("P5 ordered", 3 + 7, x.analyse());
        Expect.same("P5 sequence", "5 8 9 201 4 101 1001", Samples.sequence(x, 1));
    }

    /** The circle goes through what attributes of one rank lead to, and that comes from production 2. */
    private static void notOrderedByLeads() {
        VisitGrammar x = Samples.unordered();
        x.symbol(2, 3);
        x.production(0, 2, -1, -1);
        x.rule(2, 4, 0, 1, 0);
        x.rule(2, 5, 0, 1, 0);
        x.rule(1, 9, 0, 1, 0);
        x.production(0, 1, 1, 2);
        x.rule(3, 4, 2, 10, 0);
        x.rule(3, 5, 0, 1, 0);
        x.rule(3, 8, 0, 1, 0);
        x.rule(3, 9, 2, 13, 0);
        x.rule(3, 12, 2, 7, 0);
        x.rule(3, 13, 0, 1, 0);
        Expect.equal("P5 ordered", 3 + 7 + 4 + 10, x.analyse());
        x.rule(2, 5, 2, 4, 0);
        Expect.unsupportedThrown("P5 not ordered", () -> x.analyse());
        Expect.same("P6 not ordered", "3 3 4", Samples.fault(x));
    }

    private static void visitsAndRanks() {
        VisitGrammar x = Samples.threeVisits();
        x.analyse();
        Expect.equal("P7 visits of 0", 1, x.visits(0));
        Expect.equal("P7 visits of 1", 3, x.visits(1));
        int[] ranks = {5, 4, 3, 2};
        for (int attribute = 0; attribute < 4; attribute++) {
            Expect.equal("P8 rank " + attribute, ranks[attribute], x.rank(1, attribute));
        }
        VisitGrammar y = Samples.twoVisits();
        y.analyse();
        Expect.equal("P7 two visits", 2, y.visits(1));
        for (int attribute = 0; attribute < 4; attribute++) {
            Expect.equal("P8 rank " + attribute, 4 - attribute, y.rank(1, attribute));
        }
    }

    /** Ranks stay equal along leads between attributes of one kind. */
    private static void ranksOfLeads() {
        VisitGrammar x = new VisitGrammar();
        x.symbol(0, 0);
        x.symbol(4, 12);
        x.production(0, 1, -1, -1);
        x.rule(0, 6, 2, 5, 0);
        x.rule(0, 7, 2, 6, 0);
        x.production(1, -1, -1, -1);
        x.rule(1, 0, 1, 0, 0);
        x.rule(1, 1, 2, 0, 0);
        x.analyse();
        int[] ranks = {3, 3, 2, 2};
        for (int attribute = 0; attribute < 4; attribute++) {
            Expect.equal("P8 rank " + attribute, ranks[attribute], x.rank(1, attribute));
        }
        Expect.equal("P7 visits", 2, x.visits(1));
        Expect.same("P9 production 0", "101 6 7 102 1001", Samples.sequence(x, 0));
        Expect.same("P9 production 1", "0 1 1001 1002", Samples.sequence(x, 1));
    }

    private static void sequences() {
        VisitGrammar x = Samples.list();
        x.analyse();
        Expect.same("P9 production 0", "4 101 0 1001", Samples.sequence(x, 0));
        Expect.same("P9 production 1", "4 101 1 1001", Samples.sequence(x, 1));
        Expect.same("P9 production 2", "1 1001", Samples.sequence(x, 2));
        VisitGrammar y = Samples.twoVisits();
        y.analyse();
        Expect.same("P9 two visits of the right", "4 101 6 102 0 1001", Samples.sequence(y, 0));
        Expect.same("P9 two visits of the left", "1 1001 3 1002", Samples.sequence(y, 1));
    }

    private static void leavesInBetween() {
        VisitGrammar x = Samples.threeVisits();
        x.analyse();
        Expect.same("P9 three visits of the right", "101 5 102 7 0 103 1001", Samples.sequence(x, 0));
        Expect.same("P9 three visits of the left", "0 1001 2 1002 1003", Samples.sequence(x, 1));
    }

    /** A LEAVE that is not the last comes as soon as it is ready; the last one waits for all else. */
    private static void lastLeaveWaits() {
        VisitGrammar x = Samples.threeVisits();
        x.symbol(1, 1);
        x.production(1, 2, 2, 2);
        x.rule(2, 0, 0, 1, 0);
        x.rule(2, 2, 0, 1, 0);
        x.rule(2, 4, 2, 3, 0);
        x.rule(2, 8, 2, 1, 0);
        x.rule(2, 12, 1, 0, 0);
        x.analyse();
        Expect.same("P9 sequence", "0 2 12 301 1001 8 201 1002 4 101 1003", Samples.sequence(x, 2));
    }
}
