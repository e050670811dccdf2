/** Promises 1 to 4: a new object, symbol, production, rule. */
public final class GrammarTest {
    public static void main(String[] args) {
        newObject();
        symbols();
        inheritedBits();
        productions();
        productionErrors();
        ruleErrors();
        ruleOccurrences();
        rulesReplace();
        changesDropAnalysisAndRun();
        refusedChangesDropNothing();
        Expect.finish();
    }

    private static void newObject() {
        VisitGrammar x = new VisitGrammar();
        Expect.same("P1 fault of a new object", "0 -1 -1", Samples.fault(x));
        Expect.equal("P1 status", 0, x.status());
        Expect.equal("P1 atHand", -1, x.atHand());
        Expect.stateThrown("P1 visits", () -> x.visits(0));
        Expect.stateThrown("P1 rank", () -> x.rank(0, 0));
        Expect.stateThrown("P1 instruction", () -> x.instruction(0, 0));
        Expect.stateThrown("P1 analyse", () -> x.analyse());
        Expect.stateThrown("P1 start", () -> x.start(0));
        Expect.stateThrown("P1 run", () -> x.run(1));
        Expect.indexThrown("P1 knows", () -> x.knows(0, 0));
        Expect.indexThrown("P1 value", () -> x.value(0, 0));
        Expect.indexThrown("P1 rule", () -> x.rule(0, 0, 0, 0, 0));
        Expect.argumentThrown("P1 production", () -> x.production(0, -1, -1, -1));
        Expect.argumentThrown("P1 node", () -> x.node(0, 0, -1, -1, -1));
        x.symbol(4, 15);
        x.production(0, -1, -1, -1);
        x.node(0, 0, -1, -1, -1);
        x.analyse();
        x.start(0);
        for (int attribute = 0; attribute < 4; attribute++) {
            Expect.equal("P1 given " + attribute, 0, x.value(0, attribute));
        }
    }

    private static void symbols() {
        VisitGrammar x = new VisitGrammar();
        Expect.argumentThrown("P2 symbol(5, 0)", () -> x.symbol(5, 0));
        Expect.argumentThrown("P2 symbol(-1, 0)", () -> x.symbol(-1, 0));
        Expect.argumentThrown("P2 symbol(MIN, 0)", () -> x.symbol(Integer.MIN_VALUE, 0));
        for (int number = 0; number < 6; number++) {
            Expect.equal("P2 symbol " + number, number, x.symbol(number % 5, number));
        }
        Expect.stateThrown("P2 a seventh symbol", () -> x.symbol(0, 0));
        Expect.argumentThrown("P2 a wrong seventh symbol", () -> x.symbol(5, 0));
    }

    private static void inheritedBits() {
        VisitGrammar x = new VisitGrammar();
        x.symbol(2, -2);
        x.production(0, 0, -1, -1);
        Expect.argumentThrown("P2 the left's inherited one has no rule", () -> x.rule(0, 1, 0, 0, 0));
        Expect.argumentThrown("P2 the right's synthesized one has no rule", () -> x.rule(0, 4, 0, 0, 0));
        Expect.argumentThrown("P2 there is no attribute 2", () -> x.rule(0, 6, 0, 0, 0));
        x.rule(0, 0, 0, 0, 0);
        x.rule(0, 5, 0, 0, 0);
        Expect.equal("P2 analyse", 4, x.analyse());
        Expect.indexThrown("P2 rank of attribute 2", () -> x.rank(0, 2));
        Expect.equal("P2 rank of the synthesized one", 1, x.rank(0, 0));
        Expect.equal("P2 rank of the inherited one", 2, x.rank(0, 1));
    }

    private static void productions() {
        VisitGrammar x = new VisitGrammar();
        x.symbol(0, 0);
        Expect.equal("P3 production 0", 0, x.production(0, -1, -1, -1));
        Expect.equal("P3 production 1", 1, x.production(0, 0, -1, -1));
        Expect.equal("P3 production 2", 2, x.production(0, 0, 0, -1));
        Expect.equal("P3 production 3", 3, x.production(0, 0, 0, 0));
        Expect.equal("P3 analyse", 1 + 2 + 3 + 4, x.analyse());
        for (int number = 4; number < 10; number++) {
            Expect.equal("P3 production " + number, number, x.production(0, -1, -1, -1));
        }
        Expect.stateThrown("P3 an eleventh", () -> x.production(0, -1, -1, -1));
        Expect.argumentThrown("P3 a wrong eleventh", () -> x.production(1, -1, -1, -1));
        Expect.argumentThrown("P3 an eleventh with a gap", () -> x.production(0, -1, 0, -1));
    }

    private static void productionErrors() {
        VisitGrammar x = new VisitGrammar();
        x.symbol(0, 0);
        x.symbol(1, 0);
        int[][] wrong = {
            {-1, -1, -1, -1}, {2, -1, -1, -1}, {-2, 0, 0, 0}, {0, 2, -1, -1}, {0, 0, 2, -1},
            {0, 0, 0, 2}, {0, -2, -1, -1}, {0, 0, -2, -1}, {0, 0, 0, -2}, {0, -1, 0, -1},
            {0, -1, -1, 0}, {0, 0, -1, 0}, {0, -1, 0, 0}, {0, -1, -1, -2}, {0, 0, -1, -2},
            {0, -1, 2, -1}, {Integer.MAX_VALUE, -1, -1, -1}, {0, Integer.MIN_VALUE, -1, -1},
        };
        for (int[] w : wrong) {
            Expect.argumentThrown("P3 production(" + w[0] + ", " + w[1] + ", " + w[2] + ", " + w[3] + ")",
                    () -> x.production(w[0], w[1], w[2], w[3]));
        }
        Expect.equal("P3 the first one that will do", 0, x.production(1, 0, 1, -1));
    }

    private static void ruleErrors() {
        VisitGrammar x = new VisitGrammar();
        x.symbol(3, 1);
        x.symbol(2, 2);
        x.production(0, 1, -1, -1);
        Expect.indexThrown("P4 production -1", () -> x.rule(-1, 1, 0, 0, 0));
        Expect.indexThrown("P4 production 1", () -> x.rule(1, 1, 0, 0, 0));
        Expect.indexThrown("P4 production 1, all else wrong too", () -> x.rule(1, -1, -1, -1, -1));
        int[] notToDefine = {-1, 0, 3, 4, 6, 7, 8, 12, 15, 16, 17, 33, -31, Integer.MIN_VALUE, Integer.MAX_VALUE};
        for (int occurrence : notToDefine) {
            Expect.argumentThrown("P4 rule of " + occurrence, () -> x.rule(0, occurrence, 0, 0, 0));
        }
        int[] noForms = {-1, 8, Integer.MIN_VALUE, Integer.MAX_VALUE};
        for (int form : noForms) {
            Expect.argumentThrown("P4 form " + form, () -> x.rule(0, 1, form, 0, 0));
        }
    }

    private static void ruleOccurrences() {
        VisitGrammar x = new VisitGrammar();
        x.symbol(3, 1);
        x.symbol(2, 2);
        x.production(0, 1, -1, -1);
        int[] missing = {-1, 3, 6, 7, 8, 16, 32, Integer.MIN_VALUE, Integer.MAX_VALUE};
        for (int no : missing) {
            for (int form = 2; form <= 7; form++) {
                int f = form;
                Expect.argumentThrown("P4 form " + f + " of x " + no, () -> x.rule(0, 1, f, no, 0));
            }
            for (int form = 3; form <= 6; form++) {
                int f = form;
                Expect.argumentThrown("P4 form " + f + " of y " + no, () -> x.rule(0, 1, f, 0, no));
            }
            x.rule(0, 1, 0, no, no);
            x.rule(0, 1, 1, no, no);
            x.rule(0, 1, 2, 0, no);
            x.rule(0, 1, 7, 0, no);
        }
        for (int occurrence : new int[] {0, 1, 2, 4, 5}) {
            x.rule(0, 1, 3, occurrence, occurrence);
        }
    }

    private static void rulesReplace() {
        VisitGrammar x = new VisitGrammar();
        x.symbol(2, 0);
        x.production(0, -1, -1, -1);
        x.rule(0, 0, 2, 0, 0);
        x.rule(0, 1, 2, 0, 0);
        Expect.unsupportedThrown("P4 a rule that uses what it defines", () -> x.analyse());
        x.rule(0, 0, 0, 8, 0);
        Expect.same("P4 sequence", "0 1 1001", x.analyse() == 3 ? Samples.sequence(x, 0) : "");
        x.rule(0, 1, 0, 9, 0);
        x.rule(0, 0, 2, 1, 0);
        x.analyse();
        Expect.same("P4 sequence with other rules", "1 0 1001", Samples.sequence(x, 0));
        x.node(0, 0, -1, -1, -1);
        x.start(0);
        x.run(500);
        Expect.equal("P4 the new rule's value", 9, x.value(0, 0));
    }

    private static VisitGrammar going() {
        VisitGrammar x = Samples.listWithTree();
        x.start(2);
        x.run(3);
        return x;
    }

    private static void changesDropAnalysisAndRun() {
        VisitGrammar afterSymbol = going();
        afterSymbol.symbol(0, 0);
        expectDropped("P2 symbol", afterSymbol);
        VisitGrammar afterProduction = going();
        afterProduction.production(0, -1, -1, -1);
        expectDropped("P3 production", afterProduction);
        VisitGrammar afterRule = going();
        afterRule.rule(0, 0, 2, 5, 0);
        expectDropped("P4 rule", afterRule);
    }

    private static void expectDropped(String what, VisitGrammar x) {
        Expect.equal(what + ": status", 0, x.status());
        Expect.equal(what + ": atHand", -1, x.atHand());
        Expect.isTrue(what + ": nothing is known", !x.knows(1, 0));
        Expect.stateThrown(what + ": value", () -> x.value(1, 0));
        Expect.stateThrown(what + ": run", () -> x.run(0));
        Expect.stateThrown(what + ": start", () -> x.start(2));
        Expect.stateThrown(what + ": visits", () -> x.visits(0));
        Expect.stateThrown(what + ": rank", () -> x.rank(0, 0));
        Expect.stateThrown(what + ": instruction", () -> x.instruction(0, 0));
        Expect.equal(what + ": the nodes are still there", 3, x.node(2, 0, -1, -1, -1));
    }

    private static void refusedChangesDropNothing() {
        VisitGrammar x = going();
        Expect.argumentThrown("P2 symbol(5, 0)", () -> x.symbol(5, 0));
        Expect.argumentThrown("P3 production(9, ..)", () -> x.production(9, -1, -1, -1));
        Expect.indexThrown("P4 rule(9, ..)", () -> x.rule(9, 0, 0, 0, 0));
        Expect.argumentThrown("P4 rule(0, 5, ..)", () -> x.rule(0, 5, 0, 0, 0));
        Expect.argumentThrown("P4 rule of no form", () -> x.rule(0, 4, 8, 0, 0));
        Expect.argumentThrown("P4 rule that uses nothing there", () -> x.rule(0, 4, 2, 9, 0));
        Expect.equal("the run goes on", 1, x.status());
        Expect.equal("the node at hand is the same", 1, x.atHand());
        Expect.equal("the run ends as ever", 7, x.run(500));
        Expect.equal("its value", 10 + 3 + 5 + 3, x.value(2, 0));
    }
}
