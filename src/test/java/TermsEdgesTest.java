/** The boundary cases of the document's 'What it is' and 'Terms', a test for each sentence. */
public final class TermsEdgesTest {
    /** Symbol 1 has two visits: its synthesized 0 leads to its inherited 1. */
    private static final String SYNTHESIZED_FIRST = """
            symbol 0 0; symbol 2 2
            production 0 1 -1 -1; rule 0 5 2 4 0
            production 1 -1 -1 -1; rule 1 0 1 0 0
            """;

    private static final String REFUSED = " throws IllegalArgumentException\n";

    public static void main(String[] args) {
        atMost512Calls();
        occurrenceIs4TimesAPositionAndAnAttribute();
        attributesOfTheSymbolThere();
        toBeDefined();
        usesAnyOccurrence();
        incompleteIfOneHasNoRule();
        nothingToBeDefinedIsComplete();
        leadsToTheThird();
        eachWayRound();
        throughAnotherPosition();
        throughAChild();
        fourTimesRoundAllSymbols();
        inManyRounds();
        handedOnFromEachPosition();
        handedOnToEachPosition();
        otherPositionsAreNotHandedOn();
        anotherOneIsNotItself();
        circularIfItLeadsToItself();
        unusedNumbersDoNotLead();
        leastRanks();
        rankNotLessThanWhatItLeadsTo();
        visitsAreHalfTheGreatestRankRoundedUp();
        visitsAtLeastOne();
        belongsToItsVisit();
        orderedFromGreaterToLessRank();
        orderedAtTheLeftToo();
        orderedInTheFirstProduction();
        equalRanksAreNotOrdered();
        setsByOccurrence();
        visitsByPositionAndNumber();
        setsBeforeVisitsBeforeLeaves();
        visitWaitsForTheOneBefore();
        visitWaitsForAllInheritedOnes();
        lastLeaveWhenAllElseIsThere();
        aTreeOfOneNode();
        asManyChildrenAsTheRight();
        goesOnBehindItsLatestOne();
        leaveAtTheRoot();
        Expect.finish();
    }

    /** "An object is used for at most 512 calls after it has been made". */
    private static void atMost512Calls() {
        String before = Samples.LIST_WITH_TREE
                + "rule 0 4 0 10 0; analyse = 10; give 0 7\n".repeat(164) + "status = 0\n".repeat(2);
        String last = "start 2; run 9 = 9; run 500 = 1; value 2 0 = 21";
        Expect.equal("exactly 512 calls", 512, (before + last).split("[\n;]").length);
        Script.due("512 calls", before, last);
    }

    /** "An OCCURRENCE of a production is 4 times a position and an attribute": 0 to 15. */
    private static void occurrenceIs4TimesAPositionAndAnAttribute() {
        Script.due("occurrences 0 to 15", """
                symbol 4 0; symbol 4 15
                production 0 1 1 1
                rule 0 -1 0 0 0 throws IllegalArgumentException
                rule 0 0 2 15 0
                rule 0 15 0 5 0
                rule 0 16 0 0 0 throws IllegalArgumentException
                rule 0 0 2 -1 0 throws IllegalArgumentException
                rule 0 0 2 16 0 throws IllegalArgumentException
                """);
    }

    /** ".. an attribute of the symbol there": no others, and none at a position that is not there. */
    private static void attributesOfTheSymbolThere() {
        StringBuilder rows = new StringBuilder("symbol 3 0; symbol 0 0; symbol 1 0; production 0 1 2 -1\n");
        for (int occurrence = -1; occurrence <= 16; occurrence++) {
            boolean there = occurrence >= 0 && occurrence <= 2 || occurrence == 8;
            rows.append("rule 0 0 2 ").append(occurrence).append(" 0").append(there ? "\n" : REFUSED);
        }
        Script.due("attributes of the symbol there", rows.toString());
    }

    /** "The synthesized ones of position 0 and the inherited ones of the others are to be DEFINED". */
    private static void toBeDefined() {
        StringBuilder rows = new StringBuilder("symbol 4 5; production 0 0 0 0\n");
        for (int occurrence = -4; occurrence < 20; occurrence++) {
            boolean there = occurrence >= 0 && occurrence < 16;
            boolean due = there && occurrence < 4 == (occurrence % 2 == 1);
            rows.append("rule 0 ").append(occurrence).append(" 0 0 0").append(due ? "\n" : REFUSED);
        }
        Script.due("to be defined", rows.toString(), "analyse = 12");
    }

    /** "one or two occurrences of the production (any)": also itself, and those that are to be defined. */
    private static void usesAnyOccurrence() {
        StringBuilder rows = new StringBuilder("symbol 4 5; production 0 0 0 0\n");
        for (int used = 0; used < 16; used++) {
            rows.append("rule 0 1 2 ").append(used).append(" 0; rule 0 1 7 ").append(used).append(" 0\n");
            rows.append("rule 0 1 3 ").append(used).append(' ').append(used).append('\n');
            rows.append("rule 0 1 6 ").append(used).append(' ').append(15 - used).append('\n');
        }
        Script.due("uses any", rows.toString());
    }

    /** "It is INCOMPLETE if an occurrence that is to be defined has no rule": one is enough, each time. */
    private static void incompleteIfOneHasNoRule() {
        int[] toDefine = {1, 3, 4, 6, 8, 10, 12, 14};
        for (int missing : toDefine) {
            StringBuilder rows = new StringBuilder("symbol 4 5; production 0 0 0 0\n");
            for (int occurrence : toDefine) {
                rows.append(occurrence == missing ? "" : "rule 0 " + occurrence + " 0 0 0\n");
            }
            Script.due("incomplete without " + missing, rows.toString(),
                    "analyse throws IllegalStateException", Samples.faultRows(1, 0, missing),
                    "rule 0 " + missing + " 0 0 0", "analyse = 12");
        }
    }

    private static void nothingToBeDefinedIsComplete() {
        Script.due("no attributes", "symbol 0 0; production 0 0 0 0; analyse = 4");
        Script.due("the left's inherited ones and the right's synthesized ones",
                "symbol 4 15; symbol 4 0; production 0 1 1 1; analyse = 4");
    }

    /** "what leads to something that leads to a third leads to the third": round the longest circle. */
    private static void leadsToTheThird() {
        Script.due("a circle of eight", """
                symbol 4 10; production 0 0 0 0
                rule 0 0 2 2 0; rule 0 2 2 5 0; rule 0 5 2 7 0; rule 0 7 2 9 0
                rule 0 9 2 11 0; rule 0 11 2 13 0; rule 0 13 2 15 0; rule 0 15 0 1 0
                analyse = 12
                rule 0 15 2 0 0
                analyse throws UnsupportedOperationException
                """, Samples.faultRows(2, 0, 0));
        Script.due("a circle of three behind another", """
                symbol 4 0; production 0 -1 -1 -1
                rule 0 0 2 3 0; rule 0 1 2 2 0; rule 0 2 2 3 0; rule 0 3 1 0 0
                analyse = 5
                rule 0 3 2 1 0
                analyse throws UnsupportedOperationException
                """, Samples.faultRows(2, 0, 1));
    }

    /** The same of four attributes, each way round that there is. */
    private static void eachWayRound() {
        int[][] ways = {{1, 2, 3}, {1, 3, 2}, {2, 1, 3}, {2, 3, 1}, {3, 1, 2}, {3, 2, 1}};
        for (int[] way : ways) {
            String rows = "rule 0 0 2 " + way[0] + " 0; rule 0 " + way[0] + " 2 " + way[1] + " 0; rule 0 " + way[1]
                    + " 2 " + way[2] + " 0; rule 0 " + way[2];
            Script.due("round 0 and " + way[0] + ", " + way[1] + ", " + way[2], "symbol 4 0; production 0 -1 -1 -1",
                    rows + " 1 0 0; analyse = 5", Samples.sequenceRows(0, way[2], way[1], way[0], 0, 1001),
                    rows + " 2 0 0; analyse throws UnsupportedOperationException", Samples.faultRows(2, 0, 0));
        }
    }

    /** What leads to another of its position by way of position 0 is handed on to the symbol too. */
    private static void throughAnotherPosition() {
        Script.due("through the left", """
                symbol 1 0; symbol 2 1
                production 0 1 -1 -1; rule 0 0 2 5 0; rule 0 4 2 0 0
                production 1 -1 -1 -1; rule 1 1 1 0 0
                analyse = 8
                rank 1 0 = 2; rank 1 1 = 3; visits 1 = 2
                """, Samples.sequenceRows(0, 101, 0, 4, 102, 1001), Samples.sequenceRows(1, 1, 1001, 1002), """
                rule 1 1 2 0 0
                analyse throws UnsupportedOperationException
                """, Samples.faultRows(2, 0, 0));
    }

    /** The left's 1 leads to its 0 only through the child, as the child's own production says. */
    private static void throughAChild() {
        Script.due("through a child", """
                symbol 0 0; symbol 2 2; symbol 2 1
                production 0 1 -1 -1; rule 0 5 2 4 0
                production 1 2 -1 -1; rule 1 4 2 1 0; rule 1 0 2 5 0
                production 2 -1 -1 -1; rule 2 1 2 0 0
                analyse throws UnsupportedOperationException
                """, Samples.faultRows(2, 0, 4), """
                rule 2 1 1 0 0
                analyse = 13
                """, Samples.sequenceRows(1, 101, 0, 1001, 4, 102, 1002));
    }

    /**
     * "the least ones for which": a lead goes up the six symbols by productions 0 to 4 four times, each
     * time as another one by a production that begins anew below, until the last one closes a circle.
     */
    private static void fourTimesRoundAllSymbols() {
        StringBuilder rows = new StringBuilder("symbol 4 3\n".repeat(6));
        for (int up = 0; up < 5; up++) {
            rows.append("production # ".replace("#", "" + up)).append(up + 1).append(" -1 -1\n");
            rows.append("rule # 4 2 0 0; rule # 5 2 1 0; rule # 2 2 6 0; rule # 3 2 7 0\n".replace("#", "" + up));
        }
        Script.due("four times round", rows.toString(), """
                production 5 0 -1 -1; rule 5 4 2 1 0; rule 5 5 0 1 0; rule 5 2 2 6 0; rule 5 3 0 1 0
                production 5 0 -1 -1; rule 6 4 0 1 0; rule 6 5 2 1 0; rule 6 2 0 1 0; rule 6 3 2 6 0
                production 5 0 -1 -1; rule 7 4 0 1 0; rule 7 5 2 0 0; rule 7 2 0 1 0; rule 7 3 2 7 0
                production 5 -1 -1 -1; rule 8 2 0 1 0; rule 8 3 0 1 0
                production 0 0 0 -1; rule 9 4 2 11 0; rule 9 5 0 1 0; rule 9 8 2 7 0; rule 9 9 0 1 0
                rule 9 2 0 1 0; rule 9 3 0 1 0
                analyse throws UnsupportedOperationException
                """, Samples.faultRows(3, 9, 4), """
                rule 8 2 2 0 0
                analyse throws UnsupportedOperationException
                """, Samples.faultRows(2, 0, 0), """
                rule 9 4 0 1 0
                analyse
                """);
    }

    /** The same on a grammar that was searched for: its leads are handed on some 35 times one behind another. */
    private static void inManyRounds() {
        Script.due("many rounds", """
                symbol 4 2; symbol 4 13; symbol 4 11; symbol 4 7; symbol 4 15; symbol 4 15
                production 0 -1 -1 -1; rule 0 0 0 1 0; rule 0 2 2 0 0; rule 0 3 0 1 0
                production 3 5 1 5; rule 1 3 2 13 0; rule 1 4 2 2 0; rule 1 5 2 15 0; rule 1 6 0 1 0
                rule 1 7 2 8 0; rule 1 8 0 1 0; rule 1 10 3 6 15; rule 1 11 2 5 0; rule 1 12 0 1 0; rule 1 13 2 6 0
                rule 1 14 3 2 14; rule 1 15 2 2 0
                production 1 1 5 1; rule 2 1 2 13 0; rule 2 4 0 1 0; rule 2 6 2 12 0; rule 2 7 0 1 0
                rule 2 8 3 12 2; rule 2 9 2 5 0; rule 2 10 2 10 0; rule 2 11 2 1 0; rule 2 12 0 1 0
                rule 2 14 2 3 0; rule 2 15 2 0 0
                production 4 -1 -1 -1
                production 1 5 5 0; rule 4 1 2 4 0; rule 4 4 3 8 15; rule 4 5 0 1 0; rule 4 6 2 14 0
                rule 4 7 0 1 0; rule 4 8 0 1 0; rule 4 9 2 6 0; rule 4 10 3 5 7; rule 4 11 2 2 0; rule 4 13 2 5 0
                production 2 3 2 3; rule 5 2 3 10 4; rule 5 4 3 2 13; rule 5 5 0 1 0; rule 5 6 0 1 0
                rule 5 8 3 5 3; rule 5 9 2 9 0; rule 5 11 3 7 1; rule 5 12 2 6 0; rule 5 13 0 1 0; rule 5 14 2 0 0
                production 3 3 3 3; rule 6 3 2 7 0; rule 6 4 0 1 0; rule 6 5 2 12 0; rule 6 6 2 1 0; rule 6 8 2 0 0
                rule 6 9 0 1 0; rule 6 10 3 6 1; rule 6 12 2 8 0; rule 6 13 2 4 0; rule 6 14 0 1 0
                production 0 4 4 0; rule 7 0 2 4 0; rule 7 2 3 9 13; rule 7 3 2 7 0; rule 7 4 0 1 0; rule 7 5 0 1 0
                rule 7 6 3 11 10; rule 7 7 0 1 0; rule 7 8 2 5 0; rule 7 9 3 14 12; rule 7 10 2 12 0
                rule 7 11 3 1 12; rule 7 13 2 10 0
                production 4 -1 -1 -1
                production 5 1 1 -1; rule 9 4 3 10 0; rule 9 6 2 9 0; rule 9 7 0 1 0; rule 9 8 0 1 0
                rule 9 10 2 0 0; rule 9 11 2 7 0
                analyse throws UnsupportedOperationException
                """, Samples.faultRows(2, 0, 0));
    }

    /** "if in a production an occurrence leads to another one of the same position, so do the attributes". */
    private static void handedOnFromEachPosition() {
        for (int position = 1; position <= 3; position++) {
            Script.due("handed on from position " + position, """
                    symbol 0 0; symbol 2 1
                    production 1 -1 -1 -1; rule 0 1 2 0 0
                    """, childAt(position), "rule 1 " + 4 * position + " 0 7 0", "analyse = " + (4 + position),
                    "rule 1 " + 4 * position + " 2 " + (4 * position + 1) + " 0",
                    "analyse throws UnsupportedOperationException", Samples.faultRows(2, 0, 0));
        }
    }

    /** "if an attribute of a symbol leads to another, so do the occurrences at each position of it". */
    private static void handedOnToEachPosition() {
        for (int position = 1; position <= 3; position++) {
            Script.due("handed on to position " + position, "symbol 0 0; symbol 2 1", childAt(position),
                    "rule 0 " + 4 * position + " 2 " + (4 * position + 1) + " 0",
                    "production 1 -1 -1 -1; rule 1 1 1 0 0", "analyse",
                    "rule 1 1 2 0 0",
                    "analyse throws UnsupportedOperationException", Samples.faultRows(2, 0, 4 * position));
        }
    }

    /** A production of symbol 0 with symbol 1 at one position, behind symbols without attributes. */
    private static String childAt(int position) {
        return new String[] {"production 0 1 -1 -1", "production 0 0 1 -1", "production 0 0 0 1"}[position - 1];
    }

    /**
     * ".. of the same position": what crosses positions is not handed on to the symbol. The last rule
     * closes a circle through each child, so that attribute 1 leads to 0 there, and production 0 has it too.
     */
    private static void otherPositionsAreNotHandedOn() {
        Script.due("from child to child", """
                symbol 0 0; symbol 2 1
                production 1 -1 -1 -1; rule 0 1 2 0 0
                production 0 1 1 1; rule 1 4 2 9 0; rule 1 8 2 13 0; rule 1 12 0 1 0
                analyse = 9
                rule 1 12 2 5 0
                analyse throws UnsupportedOperationException
                """, Samples.faultRows(2, 0, 0));
    }

    /** ".. leads to another one": an occurrence that leads to itself alone gives its symbol nothing. */
    private static void anotherOneIsNotItself() {
        for (int attribute = 0; attribute < 4; attribute++) {
            Script.due("the left's " + attribute + " is no other", """
                    symbol 4 0
                    production 0 0 -1 -1; rule 0 0 2 4 0; rule 0 1 2 5 0; rule 0 2 2 6 0; rule 0 3 2 7 0
                    production 0 -1 -1 -1; rule 1 0 1 0 0; rule 1 1 1 0 0; rule 1 2 1 0 0; rule 1 3 1 0 0
                    """, "rule 1 # 2 # 0".replace("#", "" + attribute),
                    "analyse throws UnsupportedOperationException", Samples.faultRows(2, 1, attribute));
            Script.due("the right's " + attribute + " is no other", """
                    symbol 4 15
                    production 0 -1 -1 -1
                    production 0 0 -1 -1; rule 1 4 1 0 0; rule 1 5 1 0 0; rule 1 6 1 0 0; rule 1 7 1 0 0
                    """, "rule 1 # 2 # 0".replace("#", "" + (4 + attribute)),
                    "analyse throws UnsupportedOperationException", Samples.faultRows(2, 1, 4 + attribute));
        }
    }

    /** "It is CIRCULAR if an occurrence leads to itself": by each form and each of its two places. */
    private static void circularIfItLeadsToItself() {
        String grammar = "symbol 2 1; production 0 -1 -1 -1\n";
        for (int form = 2; form <= 7; form++) {
            Script.due("x is itself, form " + form, grammar, "rule 0 1 " + form + " 1 0",
                    "analyse throws UnsupportedOperationException", Samples.faultRows(2, 0, 1));
        }
        for (int form = 3; form <= 6; form++) {
            Script.due("y is itself, form " + form, grammar, "rule 0 1 " + form + " 0 1",
                    "analyse throws UnsupportedOperationException", Samples.faultRows(2, 0, 1));
        }
    }

    /** A number x, and an x or y that the form does not use, lead to nothing. */
    private static void unusedNumbersDoNotLead() {
        Script.due("unused x and y", """
                symbol 2 1; production 0 -1 -1 -1
                rule 0 1 0 1 1; analyse = 2
                rule 0 1 1 1 1; analyse = 2
                rule 0 1 2 0 1; analyse = 2
                rule 0 1 7 0 1; analyse = 2
                """);
    }

    /** "the least odd number (of an inherited one the least even number above 0)": 1, and 2, not 0. */
    private static void leastRanks() {
        Script.due("least ranks", "symbol 4 10; production 0 -1 -1 -1; rule 0 0 1 0 0; rule 0 2 1 0 0; analyse = 3",
                "rank 0 0 = 1; rank 0 1 = 2; rank 0 2 = 1; rank 0 3 = 2");
    }

    /** ".. that is not less than the rank of any attribute to which it leads": equal will do. */
    private static void rankNotLessThanWhatItLeadsTo() {
        Script.due("synthesized to synthesized, inherited to inherited", """
                symbol 0 0; symbol 4 12
                production 0 1 -1 -1; rule 0 6 0 1 0; rule 0 7 2 6 0
                production 1 -1 -1 -1; rule 1 0 1 0 0; rule 1 1 2 0 0
                analyse = 7
                rank 1 0 = 1; rank 1 1 = 1; rank 1 2 = 2; rank 1 3 = 2
                """);
        Script.due("inherited to synthesized", Samples.LIST, "analyse; rank 1 0 = 2; rank 1 1 = 1");
        Script.due("synthesized to inherited", SYNTHESIZED_FIRST, "analyse = 7; rank 1 0 = 3; rank 1 1 = 2");
        Script.due("up to 4", Samples.TWO_VISITS, "analyse; rank 1 0 = 4; rank 1 1 = 3; rank 1 2 = 2; rank 1 3 = 1");
        Script.due("up to 5", Samples.THREE_VISITS, "analyse; rank 1 0 = 5; rank 1 1 = 4; rank 1 2 = 3; rank 1 3 = 2");
    }

    /** "A symbol's VISITS are half of its greatest rank, rounded up": of the ranks 1 to 5. */
    private static void visitsAreHalfTheGreatestRankRoundedUp() {
        Script.due("rank 1", Samples.LIST, "analyse; visits 0 = 1");
        Script.due("rank 2", Samples.LIST, "analyse; visits 1 = 1");
        Script.due("rank 3", SYNTHESIZED_FIRST, "analyse; visits 1 = 2");
        Script.due("rank 4", Samples.TWO_VISITS, "analyse; visits 1 = 2");
        Script.due("rank 5", Samples.THREE_VISITS, "analyse; visits 1 = 3");
    }

    /** ".. but at least 1": without attributes, in a production or in none. */
    private static void visitsAtLeastOne() {
        Script.due("no attributes", """
                symbol 0 15; symbol 0 0; production 0 0 -1 -1
                analyse = 2
                visits 0 = 1; visits 1 = 1
                """, Samples.sequenceRows(0, 101, 1001));
    }

    /** "an attribute of rank r belongs to visit VISITS - (r - 1) / 2 (cut), counted from 1". */
    private static void belongsToItsVisit() {
        String grammar = Samples.THREE_VISITS + """
                symbol 1 1; production 1 2 -1 -1; rule 2 0 1 0 0; rule 2 2 7 1 0
                """;
        Script.due("first visit", Samples.THREE_VISITS, "analyse", Samples.sequenceRows(1, 0, 1001, 2, 1002, 1003));
        Script.due("used from the beginning", grammar, "rule 2 4 0 1 0; analyse",
                Samples.sequenceRows(2, 0, 4, 101, 1001, 2, 1002, 1003));
        Script.due("rank 4 of 3 visits: the second", grammar, "rule 2 4 2 1 0; analyse",
                Samples.sequenceRows(2, 0, 1001, 2, 4, 101, 1002, 1003));
        Script.due("rank 2 of 3 visits: the third", grammar, "rule 2 4 2 3 0; analyse",
                Samples.sequenceRows(2, 0, 1001, 2, 1002, 4, 101, 1003));
        Script.due("ranks 5 and 3 of the right", Samples.THREE_VISITS, "analyse",
                Samples.sequenceRows(0, 101, 5, 102, 7, 0, 103, 1001));
        Script.due("rank 4 of 2 visits: the first", Samples.TWO_VISITS, "analyse",
                Samples.sequenceRows(0, 4, 101, 6, 102, 0, 1001) + Samples.sequenceRows(1, 1, 1001, 3, 1002));
    }

    /** "ORDERED if there is no circle in: .. from each of a greater rank to each of a less one". */
    private static void orderedFromGreaterToLessRank() {
        Script.due("between two children", Samples.UNORDERED, "analyse throws UnsupportedOperationException",
                Samples.faultRows(3, 1, 4), "rule 1 9 0 1 0; analyse = 10",
                Samples.sequenceRows(1, 5, 8, 9, 201, 4, 101, 1001));
    }

    /** ".. at each position": here the circle goes through ranks of position 0. */
    private static void orderedAtTheLeftToo() {
        Script.due("between left and child", """
                symbol 0 0; symbol 3 6; symbol 2 1
                production 0 1 -1 -1; rule 0 5 2 4 0; rule 0 6 0 1 0
                production 2 -1 -1 -1; rule 1 1 1 0 0
                production 1 2 -1 -1; rule 2 4 2 2 0; rule 2 0 2 5 0
                analyse throws UnsupportedOperationException
                """, Samples.faultRows(3, 2, 0), """
                rule 2 4 0 1 0
                analyse = 12
                """, Samples.sequenceRows(2, 4, 101, 0, 1001, 1002));
    }

    /** "For each production": here of the first symbol and the first production, to attribute 0. */
    private static void orderedInTheFirstProduction() {
        Script.due("in the first production", """
                symbol 4 12; symbol 0 0
                production 1 0 0 -1; rule 0 6 2 8 0; rule 0 7 0 1 0; rule 0 10 0 1 0; rule 0 11 2 4 0
                production 0 -1 -1 -1; rule 1 0 1 0 0; rule 1 1 1 0 0
                analyse throws UnsupportedOperationException
                """, Samples.faultRows(3, 0, 4), """
                rule 0 11 0 1 0
                analyse = 10
                """, Samples.sequenceRows(0, 7, 10, 11, 201, 6, 101, 1001));
    }

    /** Equal ranks are not put in an order: each of two inherited ones may wait for the other's use. */
    private static void equalRanksAreNotOrdered() {
        Script.due("equal ranks", """
                symbol 0 0; symbol 2 3
                production 0 1 1 1; rule 0 4 2 9 0; rule 0 8 2 5 0; rule 0 5 0 1 0; rule 0 9 0 1 0
                rule 0 12 2 8 0; rule 0 13 2 4 0
                analyse = 10
                """, Samples.sequenceRows(0, 5, 8, 9, 4, 12, 13, 101, 201, 301, 1001));
    }

    /** "SETs by occurrence": not in the order in which the rules came. */
    private static void setsByOccurrence() {
        Script.due("SETs by occurrence", """
                symbol 2 0; symbol 2 3; production 0 1 1 1
                rule 0 13 0 1 0; rule 0 12 0 1 0; rule 0 9 0 1 0; rule 0 8 0 1 0
                rule 0 5 0 1 0; rule 0 4 0 1 0; rule 0 1 0 1 0; rule 0 0 0 1 0
                analyse = 12
                """, Samples.sequenceRows(0, 0, 1, 4, 5, 8, 9, 12, 13, 101, 201, 301, 1001));
    }

    /** "then VISITs by position and number": all of position 1 first, if they are ready. */
    private static void visitsByPositionAndNumber() {
        Script.due("VISITs by position and number", SYNTHESIZED_FIRST, """
                production 0 1 1 1; rule 2 13 0 1 0; rule 2 9 0 1 0; rule 2 5 0 1 0
                analyse = 17
                """, Samples.sequenceRows(2, 5, 9, 13, 101, 102, 201, 202, 301, 302, 1001));
    }

    /** "Always the first one that is not in it yet and is READY comes next". */
    private static void setsBeforeVisitsBeforeLeaves() {
        Script.due("SETs as soon as they are ready", SYNTHESIZED_FIRST, """
                production 0 1 1 -1; rule 2 5 2 8 0; rule 2 9 2 4 0
                analyse = 14
                """, Samples.sequenceRows(2, 101, 9, 201, 5, 102, 202, 1001));
        Script.due("VISITs before a LEAVE that is ready, LEAVEs by number", SYNTHESIZED_FIRST, """
                production 1 0 0 -1; rule 2 0 0 1 0
                analyse = 12
                """, Samples.sequenceRows(2, 0, 101, 201, 1001, 1002));
    }

    /** "A VISIT is ready if the position's visit before it is there": though its inherited ones are set. */
    private static void visitWaitsForTheOneBefore() {
        Script.due("VISIT 2 waits for VISIT 1", Samples.TWO_VISITS, """
                production 0 1 1 -1; rule 2 0 0 1 0; rule 2 4 2 9 0; rule 2 6 0 1 0; rule 2 8 0 1 0; rule 2 10 0 1 0
                analyse = 20
                """, Samples.sequenceRows(2, 0, 6, 8, 10, 201, 4, 101, 102, 202, 1001));
    }

    /** "all inherited ones of that position that belong to it are set": also one that nothing needs. */
    private static void visitWaitsForAllInheritedOnes() {
        Script.due("VISIT waits for the last inherited one", """
                symbol 0 0; symbol 4 15; symbol 1 0; production 0 1 2 -1
                rule 0 4 0 1 0; rule 0 5 0 1 0; rule 0 6 0 1 0; rule 0 7 2 8 0
                analyse = 7
                """, Samples.sequenceRows(0, 4, 5, 6, 201, 7, 101, 1001));
    }

    /** "but the last one only when all else is there": also what the left symbol does not need. */
    private static void lastLeaveWhenAllElseIsThere() {
        Script.due("one visit", """
                symbol 1 1; symbol 1 1; production 0 1 1 1; rule 0 4 0 1 0; rule 0 8 2 0 0; rule 0 12 2 8 0
                analyse = 7
                """, Samples.sequenceRows(0, 4, 8, 12, 101, 201, 301, 1001));
        Script.due("two visits", SYNTHESIZED_FIRST, """
                symbol 1 1; production 1 2 2 -1; rule 2 0 0 1 0; rule 2 4 2 1 0; rule 2 8 2 1 0
                analyse = 14
                """, Samples.sequenceRows(2, 0, 1001, 4, 8, 101, 201, 1002));
    }

    /** "A RUN begins at a node, the ROOT": it may have no children, and nothing to set. */
    private static void aTreeOfOneNode() {
        Script.due("one node, one step", """
                symbol 0 0; production 0 -1 -1 -1; node 0 0 -1 -1 -1; analyse = 1
                start 0; status = 1; atHand = 0; run 500 = 1; status = 2; atHand = -1
                """);
    }

    /** "as many CHILDREN as the right has symbols": three, each with what is set there. */
    private static void asManyChildrenAsTheRight() {
        Script.due("three children", """
                symbol 3 0; symbol 2 1
                production 0 1 1 1; rule 0 0 2 5 0; rule 0 1 2 9 0; rule 0 2 2 13 0
                rule 0 4 0 100 0; rule 0 8 0 200 0; rule 0 12 0 300 0
                production 1 -1 -1 -1; rule 1 1 7 0 0
                node 1 1 -1 -1 -1; node 1 2 -1 -1 -1; node 1 3 -1 -1 -1; node 0 0 2 0 1
                analyse = 12; start 3; run 3 = 3; value 2 0 = 100; value 0 0 = 200; value 1 0 = 300
                run 1 = 1; atHand = 2; run 3 = 3; atHand = 3; run 1 = 1; atHand = 0; run 3 = 3; run 1 = 1; atHand = 1
                run 500 = 4; value 3 0 = 103; value 3 1 = 201; value 3 2 = 302
                """);
    }

    /** "which goes on each time behind its latest one": the child does not begin anew. */
    private static void goesOnBehindItsLatestOne() {
        Script.due("a child of three visits", Samples.THREE_VISITS, """
                node 1 4 -1 -1 -1; node 0 0 0 -1 -1; analyse = 12; start 1
                run 1 = 1; atHand = 0; run 2 = 2; atHand = 1; knows 0 0 = true; knows 0 2 = false
                run 2 = 2; atHand = 0; run 1 = 1; knows 0 2 = true; atHand = 0; run 1 = 1; atHand = 1
                run 3 = 3; atHand = 0; run 1 = 1; atHand = 1; run 1 = 1; atHand = -1; status = 2
                """);
    }

    /** "but at the root, if it was its last one, the run is DONE, else it goes on there". */
    private static void leaveAtTheRoot() {
        Script.due("a root of three visits", Samples.THREE_VISITS, """
                node 1 4 -1 -1 -1; node 0 0 0 -1 -1; analyse; start 0
                run 1 = 1; status = 1; run 1 = 1; status = 1; atHand = 0
                run 2 = 2; status = 1; atHand = 0
                run 1 = 1; status = 2; atHand = -1
                """);
    }
}
