/** Promises 10 to 18: node, fell, give, start, run, status, atHand, knows, value. */
public final class RunTest {
    public static void main(String[] args) {
        nodeErrors();
        fortyNodes();
        nodesNeedNoAnalysis();
        felling();
        giving();
        startErrors();
        startsAnew();
        stepByStep();
        runBounds();
        manyVisits();
        rootWithManyVisits();
        rootWithParent();
        growingWhileRunning();
        otherTreesAreNotKnown();
        largest();
        forms();
        knowsErrors();
        Expect.finish();
    }

    private static void nodeErrors() {
        VisitGrammar x = Samples.list();
        Expect.equal("P10 leaf", 0, x.node(2, 5, -1, -1, -1));
        int[][] wrong = {
            {-1, -1, -1, -1}, {3, -1, -1, -1}, {Integer.MAX_VALUE, -1, -1, -1},
            {2, 0, -1, -1}, {2, -1, 0, -1}, {2, -1, -1, 0}, {2, -2, -1, -1}, {2, -1, -2, -1},
            {1, -1, -1, -1}, {1, -1, 0, -1}, {1, 0, 0, -1}, {1, 0, -1, 0}, {1, 1, -1, -1}, {1, -2, -1, -1},
            {1, 2, -1, -1}, {1, Integer.MIN_VALUE, -1, -1}, {1, 40, -1, -1}, {1, 0, -1, -2},
        };
        for (int[] w : wrong) {
            Expect.argumentThrown("P10 node(" + w[0] + ", 1, " + w[1] + ", " + w[2] + ", " + w[3] + ")",
                    () -> x.node(w[0], 1, w[1], w[2], w[3]));
        }
        Expect.equal("P10 a refused child is free still", 1, x.node(1, 3, 0, -1, -1));
        Expect.argumentThrown("P10 the child of another", () -> x.node(0, 3, 0, -1, -1));
        Expect.equal("P10 top", 2, x.node(0, 3, 1, -1, -1));
        Expect.argumentThrown("P10 another symbol on its left", () -> x.node(0, 3, 2, -1, -1));
        threeChildren();
    }

    private static void threeChildren() {
        VisitGrammar x = new VisitGrammar();
        x.symbol(0, 0);
        x.production(0, -1, -1, -1);
        x.production(0, 0, 0, 0);
        for (int leaf = 0; leaf < 4; leaf++) {
            x.node(0, 0, -1, -1, -1);
        }
        Expect.argumentThrown("P10 1 and 2 alike", () -> x.node(1, 0, 0, 0, 1));
        Expect.argumentThrown("P10 1 and 3 alike", () -> x.node(1, 0, 0, 1, 0));
        Expect.argumentThrown("P10 2 and 3 alike", () -> x.node(1, 0, 1, 0, 0));
        Expect.argumentThrown("P10 one too few", () -> x.node(1, 0, 0, 1, -1));
        Expect.argumentThrown("P10 itself", () -> x.node(1, 0, 0, 1, 4));
        Expect.equal("P10 three children", 4, x.node(1, 0, 2, 0, 1));
        Expect.argumentThrown("P10 child 1 taken", () -> x.node(1, 0, 0, 3, 4));
        Expect.argumentThrown("P10 child 2 taken", () -> x.node(1, 0, 3, 1, 4));
        Expect.argumentThrown("P10 child 3 taken", () -> x.node(1, 0, 3, 4, 2));
    }

    private static void fortyNodes() {
        VisitGrammar x = Samples.list();
        for (int number = 0; number < 40; number++) {
            Expect.equal("P10 node " + number, number, x.node(2, number, -1, -1, -1));
        }
        Expect.stateThrown("P10 node 40", () -> x.node(2, 0, -1, -1, -1));
        Expect.stateThrown("P10 node 40 with a child", () -> x.node(1, 0, 39, -1, -1));
        Expect.argumentThrown("P10 a wrong node 40", () -> x.node(3, 0, -1, -1, -1));
        Expect.argumentThrown("P10 a wrong child of node 40", () -> x.node(1, 0, 40, -1, -1));
        x.fell();
        Expect.equal("P11 numbers begin anew", 0, x.node(2, 0, -1, -1, -1));
        Expect.argumentThrown("P11 node 39 is gone", () -> x.node(1, 0, 39, -1, -1));
        Expect.equal("P11 node 0 is nobody's child", 1, x.node(1, 0, 0, -1, -1));
    }

    private static void nodesNeedNoAnalysis() {
        VisitGrammar x = new VisitGrammar();
        x.symbol(1, 0);
        x.production(0, -1, -1, -1);
        Expect.equal("P10 without rules", 0, x.node(0, 6, -1, -1, -1));
        x.rule(0, 0, 1, 0, 0);
        x.analyse();
        x.start(0);
        Expect.equal("P14 run", 2, x.run(9));
        Expect.equal("P18 the token", 6, x.value(0, 0));
    }

    private static void felling() {
        VisitGrammar x = Samples.listWithTree();
        x.start(2);
        x.run(2);
        x.fell();
        Expect.equal("P11 status", 0, x.status());
        Expect.equal("P11 atHand", -1, x.atHand());
        Expect.stateThrown("P11 run", () -> x.run(1));
        Expect.indexThrown("P11 start", () -> x.start(0));
        Expect.indexThrown("P11 knows", () -> x.knows(0, 0));
        Expect.equal("P11 the analysis is still there", 1, x.visits(1));
        x.node(2, 5, -1, -1, -1);
        x.node(2, 5, -1, -1, -1);
        Expect.isTrue("P11 nothing is known", !x.knows(1, 0));
        x.start(0);
        Expect.isTrue("P11 nothing of the run before is known", !x.knows(1, 0));
    }

    private static void giving() {
        VisitGrammar x = Samples.listWithTree();
        int[] wrong = {-1, 4, Integer.MIN_VALUE, Integer.MAX_VALUE};
        for (int w : wrong) {
            Expect.indexThrown("P12 give(" + w + ", 1)", () -> x.give(w, 1));
        }
        x.give(0, 100);
        x.give(1, 55);
        x.give(3, 77);
        x.start(0);
        Expect.equal("P12 inherited", 100, x.value(0, 0));
        Expect.isTrue("P12 not inherited", !x.knows(0, 1));
        x.give(0, 200);
        Expect.equal("P12 a run that was begun before", 100, x.value(0, 0));
        x.run(500);
        Expect.equal("P12 its end", 105, x.value(0, 1));
        x.start(0);
        x.run(500);
        Expect.equal("P12 a run that was begun later", 205, x.value(0, 1));
        x.fell();
        x.node(2, 1, -1, -1, -1);
        x.start(0);
        Expect.equal("P12 kept when all is felled", 200, x.value(0, 0));
        x.rule(2, 1, 2, 0, 0);
        x.analyse();
        x.start(0);
        Expect.equal("P12 kept when rules change", 200, x.value(0, 0));
    }

    private static void startErrors() {
        VisitGrammar x = Samples.list();
        Expect.stateThrown("P13 no analysis first", () -> x.start(-1));
        x.node(2, 5, -1, -1, -1);
        Expect.stateThrown("P13 no analysis", () -> x.start(0));
        x.analyse();
        int[] wrong = {-1, 1, 40, Integer.MIN_VALUE, Integer.MAX_VALUE};
        for (int w : wrong) {
            Expect.indexThrown("P13 start(" + w + ")", () -> x.start(w));
            Expect.equal("P13 no run was begun", 0, x.status());
        }
        x.start(0);
        Expect.indexThrown("P13 start(1)", () -> x.start(1));
        Expect.equal("P13 the run goes on", 0, x.atHand());
    }

    private static void startsAnew() {
        VisitGrammar x = Samples.listWithTree();
        x.start(2);
        x.run(500);
        Expect.equal("P15 done", 2, x.status());
        x.start(2);
        Expect.equal("P13 goes on", 1, x.status());
        Expect.equal("P13 the root is at hand", 2, x.atHand());
        for (int node = 0; node < 2; node++) {
            Expect.isTrue("P13 not known yet", !x.knows(node, 0) && !x.knows(node, 1));
        }
        Expect.isTrue("P13 not known yet", !x.knows(2, 0));
        x.run(4);
        x.start(1);
        Expect.equal("P13 another root", 1, x.atHand());
        Expect.equal("P13 all its instructions again", 6, x.run(500));
    }

    private static void stepByStep() {
        VisitGrammar x = Samples.listWithTree();
        x.start(2);
        int[] atHand = {2, 2, 1, 1, 0, 0, 1, 1, 2, 2, -1};
        int[] known = {0, 1, 1, 2, 2, 3, 3, 4, 4, 5, 5};
        for (int step = 0; step <= 10; step++) {
            Expect.equal("P16 behind step " + step, atHand[step], x.atHand());
            Expect.equal("P17 behind step " + step, known[step], countKnown(x));
            Expect.equal("P15 behind step " + step, step == 10 ? 2 : 1, x.status());
            Expect.equal("P14 step " + (step + 1), step == 10 ? 0 : 1, x.run(1));
        }
        Expect.equal("P18 value", 13, x.value(0, 0));
        Expect.equal("P18 value", 18, x.value(0, 1));
        Expect.equal("P18 value", 10, x.value(1, 0));
        Expect.equal("P18 value", 21, x.value(1, 1));
        Expect.equal("P18 value", 21, x.value(2, 0));
    }

    private static int countKnown(VisitGrammar x) {
        int count = x.knows(2, 0) ? 1 : 0;
        for (int node = 0; node < 2; node++) {
            count += (x.knows(node, 0) ? 1 : 0) + (x.knows(node, 1) ? 1 : 0);
        }
        return count;
    }

    private static void runBounds() {
        VisitGrammar x = Samples.listWithTree();
        Expect.argumentThrown("P14 run(-1) without a run", () -> x.run(-1));
        Expect.argumentThrown("P14 run(501) without a run", () -> x.run(501));
        Expect.stateThrown("P14 run(0) without a run", () -> x.run(0));
        x.start(2);
        Expect.argumentThrown("P14 run(-1)", () -> x.run(-1));
        Expect.argumentThrown("P14 run(501)", () -> x.run(501));
        Expect.argumentThrown("P14 run(MIN)", () -> x.run(Integer.MIN_VALUE));
        Expect.equal("P14 run(0)", 0, x.run(0));
        Expect.equal("P14 run(9)", 9, x.run(9));
        Expect.equal("P15 the last one is missing", 1, x.status());
        Expect.equal("P14 run(500)", 1, x.run(500));
        Expect.equal("P14 run(500) when it is done", 0, x.run(500));
        Expect.argumentThrown("P14 run(501) when it is done", () -> x.run(501));
        Expect.equal("P15 done", 2, x.status());
    }

    private static void manyVisits() {
        VisitGrammar x = Samples.threeVisits();
        x.node(1, 4, -1, -1, -1);
        x.node(0, 0, 0, -1, -1);
        x.analyse();
        x.start(1);
        int[] atHand = {1, 0, 0, 1, 1, 0, 0, 1, 1, 1, 0, 1, -1};
        for (int step = 0; step <= 12; step++) {
            Expect.equal("P16 behind step " + step, atHand[step], x.atHand());
            x.run(1);
        }
        int[] values = {4, 4, 8, 8};
        for (int attribute = 0; attribute < 4; attribute++) {
            Expect.equal("P18 attribute " + attribute, values[attribute], x.value(0, attribute));
        }
        Expect.equal("P18 the root's", 12, x.value(1, 0));
    }

    private static void rootWithManyVisits() {
        VisitGrammar x = Samples.threeVisits();
        x.node(1, 4, -1, -1, -1);
        x.analyse();
        x.give(1, 70);
        x.give(3, 80);
        x.start(0);
        Expect.isTrue("P17 all inherited ones are given", x.knows(0, 1) && x.knows(0, 3));
        Expect.equal("P14 two steps", 2, x.run(2));
        Expect.equal("P16 a LEAVE that is not the last", 0, x.atHand());
        Expect.equal("P15 goes on", 1, x.status());
        Expect.equal("P14 the others", 3, x.run(500));
        Expect.equal("P15 done", 2, x.status());
        Expect.equal("P18 value", 74, x.value(0, 2));
        Expect.equal("P18 value", 80, x.value(0, 3));
    }

    private static void rootWithParent() {
        VisitGrammar x = Samples.listWithTree();
        x.give(0, 1000);
        x.start(1);
        Expect.equal("P14 the parent's instructions are not done", 6, x.run(500));
        Expect.equal("P16 the parent is not at hand", -1, x.atHand());
        Expect.equal("P18 value", 1011, x.value(1, 1));
        Expect.isTrue("P17 the parent's is not known", !x.knows(2, 0));
    }

    private static void growingWhileRunning() {
        VisitGrammar x = Samples.list();
        x.node(2, 5, -1, -1, -1);
        x.node(1, 3, 0, -1, -1);
        x.analyse();
        x.start(1);
        x.run(2);
        Expect.equal("P10 a parent for the root of the run", 2, x.node(0, 0, 1, -1, -1));
        Expect.equal("P10 a node does not end the run", 1, x.status());
        Expect.isTrue("P17 a new node's is not known", !x.knows(2, 0));
        Expect.stateThrown("P18 a new node's is not known", () -> x.value(2, 0));
        Expect.equal("P14 the run ends at its root", 4, x.run(500));
        Expect.equal("P15 done", 2, x.status());
    }

    private static void otherTreesAreNotKnown() {
        VisitGrammar x = Samples.list();
        x.node(2, 5, -1, -1, -1);
        x.node(2, 6, -1, -1, -1);
        x.analyse();
        x.start(0);
        x.run(500);
        Expect.isTrue("P17 known", x.knows(0, 0) && x.knows(0, 1));
        x.start(1);
        Expect.isTrue("P17 the run before is gone", !x.knows(0, 0) && !x.knows(0, 1));
    }

    /** As many symbols, attributes, productions and nodes as there may be, with three visits each. */
    private static void largest() {
        VisitGrammar x = new VisitGrammar();
        for (int symbol = 0; symbol < 6; symbol++) {
            x.symbol(4, 10);
        }
        for (int production = 0; production < 9; production++) {
            x.production(5, 5, 5, 5);
            for (int position = 4; position <= 12; position += 4) {
                x.rule(production, position + 1, 2, position, 0);
                x.rule(production, position + 3, 2, position + 2, 0);
            }
            x.rule(production, 0, 3, 4, 8);
            x.rule(production, 2, 3, 6, 10);
        }
        x.production(5, -1, -1, -1);
        x.rule(9, 0, 1, 0, 0);
        x.rule(9, 2, 7, 1, 0);
        Expect.equal("P5 the largest", 9 * (8 + 9 + 3) + 5, x.analyse());
        Expect.same("P9 the largest", "101 5 102 7 103 201 0 9 202 2 11 203 301 13 302 15 303 1001 1002 1003",
                Samples.sequence(x, 8));
        for (int leaf = 0; leaf < 27; leaf++) {
            x.node(9, 1, -1, -1, -1);
        }
        for (int first = 0, node = 27; node < 40; first += 3, node++) {
            Expect.equal("P10 inner node", node, x.node(node % 9, 1, first, first + 1, first + 2));
        }
        x.start(39);
        Expect.equal("P14 the largest", 13 * 20 + 27 * 5, x.run(500));
        Expect.equal("P15 the largest", 2, x.status());
        Expect.equal("P18 sum of eight tokens", 8, x.value(39, 0));
        Expect.equal("P18 sum of eight doubled tokens", 16, x.value(39, 2));
        for (int node = 0; node < 39; node++) {
            for (int attribute = 0; attribute < 4; attribute++) {
                Expect.isTrue("P17 all below are known", x.knows(node, attribute));
            }
        }
    }

    private static void forms() {
        int[][] pairs = {
            {3, 5}, {5, 3}, {-7, 2}, {Integer.MAX_VALUE, 1}, {Integer.MIN_VALUE, 1}, {1 << 20, 1 << 15},
            {Integer.MIN_VALUE, Integer.MAX_VALUE}, {0, 0}, {65537, 65537},
        };
        VisitGrammar x = new VisitGrammar();
        x.symbol(3, 3);
        for (int form = 0; form < 8; form++) {
            x.production(0, -1, -1, -1);
            x.rule(form, 2, form, form == 0 ? -123 : 0, form == 0 ? 77 : 1);
        }
        x.analyse();
        for (int[] p : pairs) {
            x.fell();
            x.give(0, p[0]);
            x.give(1, p[1]);
            int[] due = {-123, p[1], p[0], p[0] + p[1], p[0] - p[1], p[0] * p[1],
                p[0] > p[1] ? p[0] : p[1], p[1] + p[0]};
            for (int form = 0; form < 8; form++) {
                x.node(form, p[1], -1, -1, -1);
                x.start(form);
                x.run(1);
                Expect.equal("P4 form " + form + " of " + p[0] + " and " + p[1], due[form], x.value(form, 2));
            }
        }
    }

    private static void knowsErrors() {
        VisitGrammar x = Samples.listWithTree();
        int[] wrong = {-1, 3, 40, Integer.MIN_VALUE, Integer.MAX_VALUE};
        for (int round = 0; round < 2; round++) {
            for (int w : wrong) {
                Expect.indexThrown("P17 knows(" + w + ", 0)", () -> x.knows(w, 0));
                Expect.indexThrown("P18 value(" + w + ", 0)", () -> x.value(w, 0));
                Expect.indexThrown("P17 knows(0, " + w + ")", () -> x.knows(0, w));
                Expect.indexThrown("P18 value(0, " + w + ")", () -> x.value(0, w));
            }
            Expect.indexThrown("P17 knows(2, 1)", () -> x.knows(2, 1));
            Expect.indexThrown("P18 value(2, 1)", () -> x.value(2, 1));
            Expect.isTrue("P17 not known yet", !x.knows(2, 0));
            Expect.stateThrown("P18 not known yet", () -> x.value(2, 0));
            x.start(2);
        }
    }
}
