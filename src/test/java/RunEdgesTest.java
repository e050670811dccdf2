/** The boundary cases that promises 10 to 18 name, a test for each sentence. */
public final class RunEdgesTest {
    /** Productions 0 to 3 have so many children; production 4 is of another symbol. */
    private static final String CHILDREN = """
            symbol 0 0; symbol 0 0
            production 0 -1 -1 -1; production 0 0 -1 -1; production 0 0 0 -1; production 0 0 0 0
            production 1 -1 -1 -1
            """;

    private static final String LEAVES = "node 0 0 -1 -1 -1 = 0; node 0 0 -1 -1 -1 = 1; node 0 0 -1 -1 -1 = 2\n";

    public static void main(String[] args) {
        noSuchProductionForANode();
        noChildrenWhereNoneAreToBe();
        aChildWhereOneIsToBe();
        noSuchNodeAsAChild();
        aChildOfAnotherSymbol();
        theChildOfOneNodeAtMost();
        notTwiceInOneNode();
        refusedNodesTakeNoChildren();
        fortyNodes();
        tokensMayBeAnything();
        nodesNeedNoAnalysis();
        nodesDuringARun();
        fellWithoutNodes();
        fellAllNodes();
        fellTheRun();
        fellLeavesTheRest();
        giveAttributes0To3();
        giveIfItIsInherited();
        giveFromNowOn();
        giveBeforeAllElse();
        startWithoutAnalysis();
        startAtNoSuchNode();
        startAgain();
        refusedStartLeavesTheRun();
        rootBelowAnother();
        stepsNot0To500();
        noRunToGoOn();
        atMostSoManySteps();
        noStepsWhenItIsDone();
        statusOfTheRun();
        atHandOfTheRun();
        noneIsKnownWithoutARun();
        allOthersBelowAreNotKnown();
        knowsNoSuchNode();
        knowsNoSuchAttribute();
        valueNoSuchNodeOrAttribute();
        valueNotKnown();
        Expect.finish();
    }

    /** P10 "IllegalArgumentException if there is no such production". */
    private static void noSuchProductionForANode() {
        Script.due("P10 no such production", CHILDREN, """
                node -1 0 -1 -1 -1 throws IllegalArgumentException
                node 5 0 -1 -1 -1 throws IllegalArgumentException
                node 10 0 -1 -1 -1 throws IllegalArgumentException
                node MIN 0 -1 -1 -1 throws IllegalArgumentException
                node MAX 0 -1 -1 -1 throws IllegalArgumentException
                node 0 0 -1 -1 -1 = 0
                node 4 0 -1 -1 -1 = 1
                """);
        Script.due("P10 the last of ten", "symbol 0 0\n", "production 0 -1 -1 -1\n".repeat(10), """
                node 10 0 -1 -1 -1 throws IllegalArgumentException
                node 9 0 -1 -1 -1 = 0
                """);
    }

    /** P10 "a child will not do (-1 where none is to be)": nothing but -1 will. */
    private static void noChildrenWhereNoneAreToBe() {
        for (String child : new String[] {"0", "2", "3", "-2", "MIN", "MAX"}) {
            Script.due("P10 " + child + " where none is to be", CHILDREN, LEAVES,
                    "node 0 0 " + child + " -1 -1 throws IllegalArgumentException",
                    "node 0 0 -1 " + child + " -1 throws IllegalArgumentException",
                    "node 0 0 -1 -1 " + child + " throws IllegalArgumentException",
                    "node 1 0 1 " + child + " -1 throws IllegalArgumentException",
                    "node 1 0 1 -1 " + child + " throws IllegalArgumentException",
                    "node 2 0 1 2 " + child + " throws IllegalArgumentException",
                    "node 0 0 -1 -1 -1 = 3; node 1 0 1 -1 -1 = 4; node 2 0 0 2 -1 = 5");
        }
    }

    /** P10: as many children as the right has symbols, so -1 will not do where one is to be. */
    private static void aChildWhereOneIsToBe() {
        Script.due("P10 -1 where one is to be", CHILDREN, LEAVES, """
                node 1 0 -1 -1 -1 throws IllegalArgumentException
                node 1 0 -1 0 -1 throws IllegalArgumentException
                node 2 0 -1 -1 -1 throws IllegalArgumentException
                node 2 0 0 -1 -1 throws IllegalArgumentException
                node 2 0 -1 0 -1 throws IllegalArgumentException
                node 2 0 0 -1 1 throws IllegalArgumentException
                node 3 0 -1 -1 -1 throws IllegalArgumentException
                node 3 0 0 1 -1 throws IllegalArgumentException
                node 3 0 0 -1 1 throws IllegalArgumentException
                node 3 0 -1 0 1 throws IllegalArgumentException
                node 3 0 0 1 2 = 3
                """);
    }

    /** P10: children are nodes that are there already, so no node is below itself. */
    private static void noSuchNodeAsAChild() {
        for (String child : new String[] {"3", "4", "39", "40", "-2", "MIN", "MAX"}) {
            Script.due("P10 no node " + child, CHILDREN, LEAVES,
                    "node 1 0 " + child + " -1 -1 throws IllegalArgumentException",
                    "node 2 0 0 " + child + " -1 throws IllegalArgumentException",
                    "node 2 0 " + child + " 0 -1 throws IllegalArgumentException",
                    "node 3 0 0 1 " + child + " throws IllegalArgumentException",
                    "node 3 0 0 1 2 = 3");
        }
    }

    /** Terms: "nodes for productions with those on the left". */
    private static void aChildOfAnotherSymbol() {
        Script.due("P10 another symbol", CHILDREN, LEAVES, """
                node 4 0 -1 -1 -1 = 3
                node 1 0 3 -1 -1 throws IllegalArgumentException
                node 2 0 0 3 -1 throws IllegalArgumentException
                node 3 0 0 1 3 throws IllegalArgumentException
                node 3 0 3 1 2 throws IllegalArgumentException
                production 0 1 0 1 = 5
                node 5 0 0 1 3 throws IllegalArgumentException
                node 4 0 -1 -1 -1 = 4
                node 5 0 3 0 4 = 5
                """);
    }

    /** Terms: "each the child of one node at most". */
    private static void theChildOfOneNodeAtMost() {
        Script.due("P10 taken", CHILDREN, LEAVES, """
                node 3 0 0 1 2 = 3
                node 0 0 -1 -1 -1 = 4
                node 1 0 0 -1 -1 throws IllegalArgumentException
                node 1 0 1 -1 -1 throws IllegalArgumentException
                node 1 0 2 -1 -1 throws IllegalArgumentException
                node 2 0 0 4 -1 throws IllegalArgumentException
                node 2 0 4 1 -1 throws IllegalArgumentException
                node 3 0 3 4 2 throws IllegalArgumentException
                node 1 0 3 -1 -1 = 5
                node 1 0 3 -1 -1 throws IllegalArgumentException
                node 2 0 5 4 -1 = 6
                """);
    }

    /** Terms: "each the child of one node at most": nor twice of that one. */
    private static void notTwiceInOneNode() {
        Script.due("P10 twice", CHILDREN, LEAVES, """
                node 2 0 0 0 -1 throws IllegalArgumentException
                node 3 0 0 0 1 throws IllegalArgumentException
                node 3 0 0 1 0 throws IllegalArgumentException
                node 3 0 1 0 0 throws IllegalArgumentException
                node 3 0 0 0 0 throws IllegalArgumentException
                node 3 0 2 1 0 = 3
                """);
    }

    /** P10: where one child will not do, the others are nobody's children still. */
    private static void refusedNodesTakeNoChildren() {
        Script.due("P10 refused", CHILDREN, LEAVES, """
                node 3 0 0 1 7 throws IllegalArgumentException
                node 3 0 0 7 2 throws IllegalArgumentException
                node 3 0 7 1 2 throws IllegalArgumentException
                node 1 0 0 -1 -1 = 3; node 1 0 1 -1 -1 = 4; node 1 0 2 -1 -1 = 5
                """);
    }

    /** P10 "IllegalStateException if there are 40": which is named behind the wrong arguments. */
    private static void fortyNodes() {
        StringBuilder rows = new StringBuilder(CHILDREN);
        for (int number = 0; number < 40; number++) {
            rows.append("node 0 0 -1 -1 -1 = ").append(number).append('\n');
        }
        Script.due("P10 there are 40", rows.toString(), """
                node 0 0 -1 -1 -1 throws IllegalStateException
                node 3 0 0 1 39 throws IllegalStateException
                node 5 0 -1 -1 -1 throws IllegalArgumentException
                node 1 0 40 -1 -1 throws IllegalArgumentException
                node 1 0 -1 -1 -1 throws IllegalArgumentException
                analyse = 11
                start 40 throws IndexOutOfBoundsException
                start 39
                run 500 = 1
                """);
    }

    /** P10: a token is any number. */
    private static void tokensMayBeAnything() {
        Script.due("P10 tokens", "symbol 1 0; production 0 -1 -1 -1; rule 0 0 1 0 0; analyse", """
                node 0 MIN -1 -1 -1 = 0; node 0 MAX -1 -1 -1 = 1; node 0 -1 -1 -1 -1 = 2
                start 0; run 1; value 0 0 = -2147483648
                start 1; run 1; value 1 0 = 2147483647
                start 2; run 1; value 2 0 = -1
                """);
    }

    /** P10 names no analysis: nodes come before rules, and stay when the grammar changes. */
    private static void nodesNeedNoAnalysis() {
        Script.due("P10 without rules", """
                symbol 1 0; production 0 -1 -1 -1
                node 0 6 -1 -1 -1 = 0
                rule 0 0 1 0 0
                production 0 0 -1 -1; rule 1 0 2 4 0
                node 1 0 0 -1 -1 = 1
                analyse = 5; start 1; run 500 = 5; value 1 0 = 6
                """);
    }

    /** P10 names no end of the run: new nodes, also above the root, leave it alone. */
    private static void nodesDuringARun() {
        Script.due("P10 during a run", Samples.LIST, """
                node 2 5 -1 -1 -1 = 0; node 1 3 0 -1 -1 = 1; analyse; give 0 10; start 1; run 2 = 2
                node 0 0 1 -1 -1 = 2
                status = 1; atHand = 0; knows 2 0 = false; value 2 0 throws IllegalStateException
                run 500 = 4; status = 2; value 1 1 = 21; knows 2 0 = false
                node 2 0 -1 -1 -1 = 3
                status = 2; value 1 1 = 21
                """);
    }

    /** P11 "All nodes are gone": also if there are none, twice, and on a new object. */
    private static void fellWithoutNodes() {
        Script.due("P11 a new object", "fell; fell; status = 0; symbol 0 0 = 0");
        Script.due("P11 no nodes", Samples.LIST, "fell; node 2 0 -1 -1 -1 = 0; fell; fell; node 2 0 -1 -1 -1 = 0");
    }

    /** P11 "All nodes are gone": of 40, and their children are free. */
    private static void fellAllNodes() {
        Script.due("P11 forty", CHILDREN, "node 0 0 -1 -1 -1\n".repeat(37), """
                node 3 0 0 1 2 = 37; node 3 0 3 4 5 = 38; node 1 0 6 -1 -1 = 39
                fell
                knows 0 0 throws IndexOutOfBoundsException; knows 39 0 throws IndexOutOfBoundsException
                node 1 0 39 -1 -1 throws IllegalArgumentException
                node 0 0 -1 -1 -1 = 0; node 0 0 -1 -1 -1 = 1; node 0 0 -1 -1 -1 = 2
                node 3 0 0 1 2 = 3
                """, "node 0 0 -1 -1 -1\n".repeat(36), "node 0 0 -1 -1 -1 throws IllegalStateException");
    }

    /** P11 ".. and the run": one that goes on, and one that is done. */
    private static void fellTheRun() {
        for (int steps : new int[] {0, 3, 10}) {
            Script.due("P11 the run behind " + steps, Samples.LIST_WITH_TREE, "start 2; run " + steps, """
                    fell
                    status = 0; atHand = -1; run 0 throws IllegalStateException; run 1 throws IllegalStateException
                    knows 2 0 throws IndexOutOfBoundsException; value 2 0 throws IndexOutOfBoundsException
                    start 2 throws IndexOutOfBoundsException; start 0 throws IndexOutOfBoundsException
                    node 2 1 -1 -1 -1 = 0; node 1 1 0 -1 -1 = 1
                    knows 0 0 = false; knows 1 0 = false
                    start 0
                    knows 0 0 = true; knows 0 1 = false; knows 1 0 = false
                    """);
        }
    }

    /** P11 names nothing else: analysis, rules and what is given stay. */
    private static void fellLeavesTheRest() {
        Script.due("P11 the rest", Samples.LIST_WITH_TREE, """
                give 0 40; fell
                visits 1 = 1; rank 1 0 = 2; instruction 0 1 = 101; fault 0 = 0
                node 2 2 -1 -1 -1 = 0; start 0; run 500 = 2; value 0 1 = 42
                """);
    }

    /** P12 "IndexOutOfBoundsException if it is not 0 .. 3". */
    private static void giveAttributes0To3() {
        Script.due("P12 not 0 .. 3", """
                symbol 4 15; production 0 -1 -1 -1; node 0 0 -1 -1 -1; analyse
                give -1 9 throws IndexOutOfBoundsException
                give 4 9 throws IndexOutOfBoundsException
                give MIN 9 throws IndexOutOfBoundsException
                give MAX 9 throws IndexOutOfBoundsException
                start 0; value 0 0 = 0; value 0 1 = 0; value 0 2 = 0; value 0 3 = 0
                give 0 MIN; give 1 -1; give 2 7; give 3 MAX
                start 0; value 0 0 = -2147483648; value 0 1 = -1; value 0 2 = 7; value 0 3 = 2147483647
                """);
    }

    /** P12 "What the root's attribute 0 .. 3 is, if it is inherited": not a synthesized one, nor one it has not. */
    private static void giveIfItIsInherited() {
        Script.due("P12 if it is inherited", """
                symbol 3 2; production 0 -1 -1 -1; rule 0 0 2 1 0; rule 0 2 0 5 0; node 0 0 -1 -1 -1; analyse
                give 0 70; give 1 71; give 2 72; give 3 73
                start 0
                knows 0 0 = false; value 0 1 = 71; knows 0 2 = false; knows 0 3 throws IndexOutOfBoundsException
                run 500 = 3; value 0 0 = 71; value 0 2 = 5
                """);
        Script.due("P12 the root's, not a child's", Samples.LIST_WITH_TREE, """
                give 0 70; start 2; knows 1 0 = false; run 500 = 10; value 1 0 = 10
                start 1; value 1 0 = 70; knows 0 0 = false; run 500 = 6; value 0 0 = 73
                """);
    }

    /** P12 "in runs begun from now on". */
    private static void giveFromNowOn() {
        Script.due("P12 from now on", Samples.LIST_WITH_TREE, """
                give 0 100; start 0; give 0 200
                value 0 0 = 100; run 500 = 2; value 0 1 = 105; give 0 300; value 0 0 = 100
                start 0; value 0 0 = 300; run 500 = 2; value 0 1 = 305
                start 0; value 0 0 = 300
                """);
    }

    /** P12 names no state: what is given stays, whatever comes. */
    private static void giveBeforeAllElse() {
        Script.due("P12 before all else", "give 0 8", Samples.LIST_WITH_TREE, """
                fell; node 2 1 -1 -1 -1; rule 2 1 2 0 0; analyse; start 0; run 500 = 2; value 0 1 = 8
                """);
    }

    /** P13 "IllegalStateException if there is no analysis": whatever the node. */
    private static void startWithoutAnalysis() {
        Script.due("P13 no analysis", Samples.LIST, """
                node 2 5 -1 -1 -1
                start 0 throws IllegalStateException
                start -1 throws IllegalStateException
                start 1 throws IllegalStateException
                status = 0
                analyse; start 0; status = 1
                symbol 0 0; start 0 throws IllegalStateException
                """);
    }

    /** P13 "IndexOutOfBoundsException if there is no such node". */
    private static void startAtNoSuchNode() {
        Script.due("P13 no such node", Samples.LIST_WITH_TREE, """
                start -1 throws IndexOutOfBoundsException; status = 0
                start 3 throws IndexOutOfBoundsException; status = 0
                start 40 throws IndexOutOfBoundsException; status = 0
                start MIN throws IndexOutOfBoundsException; status = 0
                start MAX throws IndexOutOfBoundsException; status = 0
                start 0; atHand = 0; start 2; atHand = 2
                """);
    }

    /** P13 "Begins a run": also where one goes on or is done, and then all of it begins anew. */
    private static void startAgain() {
        for (int steps : new int[] {0, 5, 10}) {
            Script.due("P13 again behind " + steps, Samples.LIST_WITH_TREE, "start 2; run " + steps, """
                    start 2
                    status = 1; atHand = 2; knows 2 0 = false
                    knows 1 0 = false; knows 1 1 = false; knows 0 0 = false; knows 0 1 = false
                    run 500 = 10; value 2 0 = 21
                    """);
        }
    }

    private static void refusedStartLeavesTheRun() {
        Script.due("P13 refused", Samples.GOING, """
                start 3 throws IndexOutOfBoundsException
                start -1 throws IndexOutOfBoundsException
                status = 1; atHand = 1; knows 1 0 = true; run 500 = 7; value 2 0 = 21
                start 3 throws IndexOutOfBoundsException
                status = 2; value 2 0 = 21
                """);
    }

    /** P13: any node may be the root; what stands above or beside it is not part of the run. */
    private static void rootBelowAnother() {
        Script.due("P13 a root below another", Samples.LIST_WITH_TREE, """
                give 0 1000; start 1
                run 500 = 6; status = 2; atHand = -1; value 1 1 = 1011; knows 2 0 = false
                start 0
                run 500 = 2; status = 2; value 0 1 = 1005; knows 1 0 = false; knows 1 1 = false
                """);
    }

    /** P14 "IllegalArgumentException if it is not 0 .. 500". */
    private static void stepsNot0To500() {
        String refused = """
                run -1 throws IllegalArgumentException
                run 501 throws IllegalArgumentException
                run MIN throws IllegalArgumentException
                run MAX throws IllegalArgumentException
                """;
        Script.due("P14 going on", Samples.GOING, refused, "status = 1; run 0 = 0; status = 1; run 500 = 7");
        Script.due("P14 done", Samples.GOING, "run 500 = 7", refused, "status = 2; run 0 = 0; run 500 = 0");
        Script.due("P14 without a run", Samples.LIST_WITH_TREE, refused, "status = 0");
        Script.due("P14 a new object", refused);
    }

    /** P14 "IllegalStateException if there is no run": from 0 to 500 steps. */
    private static void noRunToGoOn() {
        String refused = """
                run 0 throws IllegalStateException
                run 1 throws IllegalStateException
                run 500 throws IllegalStateException
                """;
        Script.due("P14 a new object", refused);
        Script.due("P14 not begun", Samples.LIST_WITH_TREE, refused, "start 2; run 500 = 10");
        Script.due("P14 felled", Samples.GOING, "fell", refused);
        Script.due("P14 analysed again", Samples.GOING, "analyse", refused);
    }

    /** P14 "At most so many steps: how many there were": one less, as many, and one more than there are. */
    private static void atMostSoManySteps() {
        Script.due("P14 one less", Samples.LIST_WITH_TREE, "start 2; run 9 = 9; status = 1; run 1 = 1; status = 2");
        Script.due("P14 as many", Samples.LIST_WITH_TREE, "start 2; run 10 = 10; status = 2");
        Script.due("P14 one more", Samples.LIST_WITH_TREE, "start 2; run 11 = 10; status = 2");
        Script.due("P14 500", Samples.LIST_WITH_TREE, "start 2; run 500 = 10; status = 2");
        Script.due("P14 0", Samples.LIST_WITH_TREE, "start 2; run 0 = 0; status = 1; atHand = 2; knows 1 0 = false");
        Script.due("P14 1", Samples.LIST_WITH_TREE, "start 2; run 1 = 1; status = 1; knows 1 0 = true");
    }

    /** P14 "(0 when it is done)". */
    private static void noStepsWhenItIsDone() {
        Script.due("P14 done", Samples.LIST_WITH_TREE, """
                start 2; run 10 = 10
                run 0 = 0; run 1 = 0; run 500 = 0
                status = 2; atHand = -1; value 2 0 = 21
                """);
    }

    /** P15 "0 there is none, 1 it goes on, 2 it is done". */
    private static void statusOfTheRun() {
        Script.due("P15 status", "status = 0", Samples.LIST_WITH_TREE, """
                status = 0; start 2; status = 1; run 0; status = 1
                run 9; status = 1; run 1; status = 2; run 1; status = 2
                start 0; status = 1; fell; status = 0
                """);
    }

    /** P16 "The node at hand; -1 if the run is done, or there is none". */
    private static void atHandOfTheRun() {
        Script.due("P16 atHand", "atHand = -1", Samples.LIST_WITH_TREE, """
                atHand = -1; start 2; atHand = 2
                run 1; atHand = 2; run 1; atHand = 1; run 1; atHand = 1; run 1; atHand = 0; run 1; atHand = 0
                run 1; atHand = 1; run 1; atHand = 1; run 1; atHand = 2; run 1; atHand = 2; run 1; atHand = -1
                start 0; atHand = 0; analyse; atHand = -1
                """);
    }

    /** P17 "(none is without a run)": before one, and when it is gone by each call that ends it. */
    private static void noneIsKnownWithoutARun() {
        String none = """
                knows 0 0 = false; knows 0 1 = false; knows 1 0 = false; knows 1 1 = false; knows 2 0 = false
                value 1 0 throws IllegalStateException; value 2 0 throws IllegalStateException
                """;
        Script.due("P17 before", Samples.LIST_WITH_TREE, none);
        for (String end : new String[] {"symbol 0 0", "production 0 -1 -1 -1", "rule 0 4 0 10 0", "analyse"}) {
            Script.due("P17 behind " + end, Samples.GOING, "run 500 = 7; knows 2 0 = true", end, none);
        }
        Script.due("P17 felled", Samples.GOING, "run 500 = 7; fell",
                "node 2 5 -1 -1 -1; node 1 3 0 -1 -1; node 0 0 1 -1 -1", none);
    }

    /** Terms: "whose inherited attributes are given; all others below are not known". */
    private static void allOthersBelowAreNotKnown() {
        Script.due("P17 at the start", Samples.LIST_WITH_TREE, """
                start 1
                knows 1 0 = true; knows 1 1 = false; knows 0 0 = false; knows 0 1 = false; knows 2 0 = false
                """);
        Script.due("P17 of the run before, on another tree", Samples.LIST, """
                node 2 5 -1 -1 -1; node 2 6 -1 -1 -1; analyse; start 0; run 500 = 2; knows 0 1 = true
                start 1; knows 0 0 = false; knows 0 1 = false; knows 1 0 = true; knows 1 1 = false
                """);
    }

    /** P17 "IndexOutOfBoundsException if there is no such node": with and without a run. */
    private static void knowsNoSuchNode() {
        String refused = """
                knows -1 0 throws IndexOutOfBoundsException
                knows 3 0 throws IndexOutOfBoundsException
                knows 40 0 throws IndexOutOfBoundsException
                knows MIN 0 throws IndexOutOfBoundsException
                knows MAX 0 throws IndexOutOfBoundsException
                knows 3 -1 throws IndexOutOfBoundsException
                """;
        Script.due("P17 without a run", Samples.LIST_WITH_TREE, refused, "knows 0 0 = false; knows 2 0 = false");
        Script.due("P17 with a run", Samples.LIST_WITH_TREE, "start 2; run 500", refused,
                "knows 0 0 = true; knows 2 0 = true");
        Script.due("P17 the last of 40", Samples.LIST, "node 2 0 -1 -1 -1\n".repeat(40),
                "knows 39 1 = false; knows 40 1 throws IndexOutOfBoundsException");
    }

    /** P17 ".. or attribute": of a node's own symbol, with 0, 1, 2 and 4 attributes. */
    private static void knowsNoSuchAttribute() {
        Script.due("P17 no such attribute", Samples.LIST_WITH_TREE, """
                symbol 0 0; symbol 4 15; production 2 -1 -1 -1; production 3 -1 -1 -1
                node 3 0 -1 -1 -1 = 3; node 4 0 -1 -1 -1 = 4
                analyse = 12; start 4
                knows 2 -1 throws IndexOutOfBoundsException; knows 2 0 = false
                knows 2 1 throws IndexOutOfBoundsException
                knows 1 -1 throws IndexOutOfBoundsException; knows 1 1 = false
                knows 1 2 throws IndexOutOfBoundsException
                knows 3 0 throws IndexOutOfBoundsException; knows 3 -1 throws IndexOutOfBoundsException
                knows 4 3 = true; knows 4 4 throws IndexOutOfBoundsException
                knows 4 -1 throws IndexOutOfBoundsException
                knows 4 MIN throws IndexOutOfBoundsException; knows 4 MAX throws IndexOutOfBoundsException
                """);
    }

    /** P18 "IndexOutOfBoundsException if there is no such node or attribute": with and without a run. */
    private static void valueNoSuchNodeOrAttribute() {
        String refused = """
                value -1 0 throws IndexOutOfBoundsException
                value 3 0 throws IndexOutOfBoundsException
                value 40 0 throws IndexOutOfBoundsException
                value MIN 0 throws IndexOutOfBoundsException
                value MAX 0 throws IndexOutOfBoundsException
                value 2 -1 throws IndexOutOfBoundsException
                value 2 1 throws IndexOutOfBoundsException
                value 1 2 throws IndexOutOfBoundsException
                value 1 MIN throws IndexOutOfBoundsException
                value 1 MAX throws IndexOutOfBoundsException
                """;
        Script.due("P18 without a run", Samples.LIST_WITH_TREE, refused);
        Script.due("P18 with a run", Samples.GOING, refused, "value 1 0 = 10");
        Script.due("P18 done", Samples.GOING, "run 500", refused, "value 1 1 = 21; value 2 0 = 21");
        Script.due("P18 the last of 40", Samples.LIST, "node 2 0 -1 -1 -1\n".repeat(40), """
                value 39 1 throws IllegalStateException
                value 40 1 throws IndexOutOfBoundsException
                analyse; give 0 3; start 39; value 39 0 = 3; value 39 1 throws IllegalStateException
                """);
    }

    /** P18 "IllegalStateException if it is not known": until the very step that sets it. */
    private static void valueNotKnown() {
        Script.due("P18 not known", Samples.LIST_WITH_TREE, """
                value 1 0 throws IllegalStateException
                start 2; value 1 0 throws IllegalStateException; run 1; value 1 0 = 10
                value 0 0 throws IllegalStateException; run 1; value 0 0 throws IllegalStateException
                run 1; value 0 0 = 13; value 0 1 throws IllegalStateException
                run 1; value 0 1 throws IllegalStateException; run 1; value 0 1 = 18
                run 1; value 1 1 throws IllegalStateException; run 1; value 1 1 = 21
                run 1; value 2 0 throws IllegalStateException; run 1; value 2 0 = 21; run 1; value 2 0 = 21
                """);
    }
}
