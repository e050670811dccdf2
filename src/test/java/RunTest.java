/** Promises 10 to 18 on ordinary trees; RunEdgesTest has their edges. */
public final class RunTest {
    public static void main(String[] args) {
        stepByStep();
        manyVisits();
        rootWithManyVisits();
        rootWithParent();
        largest();
        Expect.finish();
    }

    private static void stepByStep() {
        VisitGrammar x = Samples.listWithTree();
        x.start(2);
        int[] atHand = {2, 2, 1, 1, 0, 0, 1, 1, 2, 2, -1};
        int[] known = {0, 1, 1, 2, 2, 3, 3, 4, 4, 5, 5};
        for (int step = 0; step <= 10; step++) {
            Expect.equal("P16 behind step " + step, atHand[step], x.atHand());
            Expect.equal("P17 behind step " + step, known[step], countKnown(x));
            Expect.equal("P15 behind step " + step, step == 10 ? 2 : 1, x.status());
            Expect.equal("P14 step " + (step + 1), step == 10 ? 0 : 1, x.run(1));
        }
        Expect.equal("P18 value", 13, x.value(0, 0));
        Expect.equal("P18 value", 18, x.value(0, 1));
        Expect.equal("P18 value", 10, x.value(1, 0));
        Expect.equal("P18 value", 21, x.value(1, 1));
        Expect.equal("P18 value", 21, x.value(2, 0));
    }

    private static int countKnown(VisitGrammar x) {
        int count = x.knows(2, 0) ? 1 : 0;
        for (int node = 0; node < 2; node++) {
            count += (x.knows(node, 0) ? 1 : 0) + (x.knows(node, 1) ? 1 : 0);
        }
        return count;
    }

    private static void manyVisits() {
        VisitGrammar x = Samples.threeVisits();
        x.node(1, 4, -1, -1, -1);
        x.node(0, 0, 0, -1, -1);
        x.analyse();
        x.start(1);
        int[] atHand = {1, 0, 0, 1, 1, 0, 0, 1, 1, 1, 0, 1, -1};
        for (int step = 0; step <= 12; step++) {
            Expect.equal("P16 behind step " + step, atHand[step], x.atHand());
            x.run(1);
        }
        int[] values = {4, 4, 8, 8};
        for (int attribute = 0; attribute < 4; attribute++) {
            Expect.equal("P18 attribute " + attribute, values[attribute], x.value(0, attribute));
        }
        Expect.equal("P18 the root's", 12, x.value(1, 0));
    }

    private static void rootWithManyVisits() {
        VisitGrammar x = Samples.threeVisits();
        x.node(1, 4, -1, -1, -1);
        x.analyse();
        x.give(1, 70);
        x.give(3, 80);
        x.start(0);
        Expect.isTrue("P17 all inherited ones are given", x.knows(0, 1) && x.knows(0, 3));
        Expect.equal("P14 two steps", 2, x.run(2));
        Expect.equal("P16 a LEAVE that is not the last", 0, x.atHand());
        Expect.equal("P15 goes on", 1, x.status());
        Expect.equal("P14 the others", 3, x.run(500));
        Expect.equal("P15 done", 2, x.status());
        Expect.equal("P18 value", 74, x.value(0, 2));
        Expect.equal("P18 value", 80, x.value(0, 3));
    }

    private static void rootWithParent() {
        VisitGrammar x = Samples.listWithTree();
        x.give(0, 1000);
        x.start(1);
        Expect.equal("P14 the parent's instructions are not done", 6, x.run(500));
        Expect.equal("P16 the parent is not at hand", -1, x.atHand());
        Expect.equal("P18 value", 1011, x.value(1, 1));
        Expect.isTrue("P17 the parent's is not known", !x.knows(2, 0));
    }

    /** As many symbols, attributes, productions and nodes as there may be, with three visits each. */
    private static void largest() {
        VisitGrammar x = new VisitGrammar();
        for (int symbol = 0; symbol < 6; symbol++) {
            x.symbol(4, 10);
        }
        for (int production = 0; production < 9; production++) {
            x.production(5, 5, 5, 5);
            for (int position = 4; position <= 12; position += 4) {
                x.rule(production, position + 1, 2, position, 0);
                x.rule(production, position + 3, 2, position + 2, 0);
            }
            x.rule(production, 0, 3, 4, 8);
            x.rule(production, 2, 3, 6, 10);
        }
        x.production(5, -1, -1, -1);
        x.rule(9, 0, 1, 0, 0);
        x.rule(9, 2, 7, 1, 0);
        Expect.equal("P5 the largest", 9 * (8 + 9 + 3) + 5, x.analyse());
        Expect.same("P9 the largest", "101 5 102 7 103 201 0 9 202 2 11 203 301 13 302 15 303 1001 1002 1003",
                Samples.sequence(x, 8));
        for (int leaf = 0; leaf < 27; leaf++) {
            x.node(9, 1, -1, -1, -1);
        }
        for (int first = 0, node = 27; node < 40; first += 3, node++) {
            Expect.equal("P10 inner node", node, x.node(node % 9, 1, first, first + 1, first + 2));
        }
        x.start(39);
        Expect.equal("P14 the largest", 13 * 20 + 27 * 5, x.run(500));
        Expect.equal("P15 the largest", 2, x.status());
        Expect.equal("P18 sum of eight tokens", 8, x.value(39, 0));
        Expect.equal("P18 sum of eight doubled tokens", 16, x.value(39, 2));
        for (int node = 0; node < 39; node++) {
            for (int attribute = 0; attribute < 4; attribute++) {
                Expect.isTrue("P17 all below are known", x.knows(node, attribute));
            }
        }
    }
}
