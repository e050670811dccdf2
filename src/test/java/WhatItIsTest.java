import java.util.ArrayList;
import java.util.Arrays;
import java.util.List;
import java.util.Random;

/**
 * The document's first sentence, on made-up grammars and trees: what analyse() takes runs to its end on
 * every tree, and each step sets one attribute at most, once, only from what is known, and to what its
 * rule says. The rules are kept here, so no model is asked. The seeds are written here too.
 */
public final class WhatItIsTest {
    private static final int GRAMMARS = 1500;
    private static final int NODES = 9;

    /** A node as it was made: its production, its token, and itself with its children. */
    private record Node(int production, int token, int[] family) {
    }

    private final Random random;
    private final int chains;
    private final StringBuilder rows = new StringBuilder();
    private final int[] attributes;
    private final int[] inherited;
    private final List<int[]> productions = new ArrayList<>();
    private final List<int[][]> rules = new ArrayList<>();
    private final List<Node> nodes = new ArrayList<>();
    private final boolean[] taken = new boolean[40];

    private static int taking;
    private static int refusing;
    private static int stepsSeen;
    private static int manyVisits;

    private WhatItIsTest(int seed) {
        random = new Random(seed);
        chains = random.nextInt(101);
        attributes = new int[1 + random.nextInt(4)];
        inherited = new int[attributes.length];
    }

    public static void main(String[] args) {
        for (int seed = 0; seed < GRAMMARS; seed++) {
            new WhatItIsTest(seed).play("seed " + seed);
        }
        System.out.println("grammars taken: " + taking + ", refused: " + refusing + ", steps: " + stepsSeen
                + ", symbols of many visits: " + manyVisits);
        Expect.isTrue("grammars that are taken were many", taking > 300);
        Expect.isTrue("symbols of many visits were many", manyVisits > 100);
        Expect.finish();
    }

    private void play(String name) {
        makeSymbols();
        makeProductions();
        VisitGrammar x = Script.made(rows.toString());
        if (Calls.answer(x, "analyse").startsWith("throws")) {
            refusing++;
            return;
        }
        taking++;
        rows.append("analyse\n");
        for (int symbol = 0; symbol < attributes.length; symbol++) {
            manyVisits += x.visits(symbol) > 1 ? 1 : 0;
        }
        growTree();
        int root = random.nextBoolean() ? nodes.size() - 1 : random.nextInt(nodes.size());
        for (int attribute = 0; attribute < 4; attribute++) {
            rows.append("give ").append(attribute).append(' ').append(random.nextInt()).append('\n');
        }
        walk(name, root);
    }

    private void makeSymbols() {
        for (int symbol = 0; symbol < attributes.length; symbol++) {
            attributes[symbol] = random.nextInt(5);
            inherited[symbol] = random.nextInt(100) < chains ? 5 << random.nextInt(2) : random.nextInt(16);
            rows.append("symbol ").append(attributes[symbol]).append(' ').append(inherited[symbol]).append('\n');
        }
    }

    /** First one without a right for each symbol, so that every tree can end. */
    private void makeProductions() {
        for (int symbol = 0; symbol < attributes.length; symbol++) {
            makeProduction(symbol, 0);
        }
        for (int more = 1 + random.nextInt(3); more > 0; more--) {
            makeProduction(random.nextInt(attributes.length), 1 + random.nextInt(3));
        }
    }

    private void makeProduction(int left, int right) {
        int[] symbols = new int[1 + right];
        symbols[0] = left;
        for (int position = 1; position <= right; position++) {
            symbols[position] = random.nextInt(attributes.length);
        }
        rows.append("production");
        for (int position = 0; position < 4; position++) {
            rows.append(' ').append(position <= right ? symbols[position] : -1);
        }
        rows.append('\n');
        productions.add(symbols);
        rules.add(new int[16][]);
        for (int occurrence = 0; occurrence < 16; occurrence++) {
            if (isThere(symbols, occurrence) && isToBeDefined(symbols, occurrence)) {
                makeRule(productions.size() - 1, occurrence);
            }
        }
    }

    private void makeRule(int production, int occurrence) {
        int[] symbols = productions.get(production);
        int x = use(symbols, occurrence);
        int y = use(symbols, occurrence);
        int form = x < 0 || y < 0 ? random.nextInt(2) : random.nextInt(8);
        rules.get(production)[occurrence] = new int[] {form, x, y};
        rows.append("rule ").append(production).append(' ').append(occurrence).append(' ').append(form)
                .append(' ').append(x).append(' ').append(y).append('\n');
    }

    /** Mostly what is not to be defined itself: other uses close too many circles. */
    private int use(int[] symbols, int occurrence) {
        boolean isChained = occurrence % 4 > 0 && !isToBeDefined(symbols, occurrence - 1);
        if (isChained && random.nextInt(100) < chains) {
            return occurrence - 1;
        }
        int used = random.nextInt(4 * symbols.length);
        boolean willDo = isThere(symbols, used) && (!isToBeDefined(symbols, used) || random.nextInt(6) == 0);
        return willDo ? used : -1;
    }

    private boolean isThere(int[] symbols, int occurrence) {
        return occurrence / 4 < symbols.length && occurrence % 4 < attributes[symbols[occurrence / 4]];
    }

    private boolean isToBeDefined(int[] symbols, int occurrence) {
        return isInherited(symbols[occurrence / 4], occurrence % 4) == occurrence >= 4;
    }

    private boolean isInherited(int symbol, int attribute) {
        return (inherited[symbol] >> attribute & 1) == 1;
    }

    private void growTree() {
        while (nodes.size() < NODES) {
            int production = random.nextInt(productions.size());
            int[] symbols = productions.get(production);
            int[] family = new int[symbols.length];
            for (int position = 1; position < symbols.length; position++) {
                family[position] = freeNode(symbols[position]);
            }
            addNode(production, family);
        }
    }

    private int freeNode(int symbol) {
        for (int node = nodes.size() - 1; node >= 0; node--) {
            if (!taken[node] && symbolOf(node) == symbol) {
                taken[node] = true;
                return node;
            }
        }
        taken[addNode(symbol, new int[1])] = true;
        return nodes.size() - 1;
    }

    private int addNode(int production, int[] family) {
        family[0] = nodes.size();
        nodes.add(new Node(production, random.nextInt(), family));
        rows.append("node ").append(production).append(' ').append(nodes.get(family[0]).token);
        for (int position = 1; position < 4; position++) {
            rows.append(' ').append(position < family.length ? family[position] : -1);
        }
        rows.append(" = ").append(family[0]).append('\n');
        return family[0];
    }

    private int symbolOf(int node) {
        return productions.get(nodes.get(node).production)[0];
    }

    /** Each number of steps has an object of its own, since one object has no room for all that is asked. */
    private void walk(String name, int root) {
        VisitGrammar x = Script.made(rows.toString(), "start " + root);
        Integer[] before = known(x);
        Expect.same(name + ": what is known at the beginning", knownAtTheBeginning(root), places(before));
        for (int steps = 1; x.status() == 1 && steps <= 500; steps++) {
            int hand = x.atHand();
            x = Script.made(rows.toString(), "start " + root, "run " + steps + " = " + steps);
            Integer[] after = known(x);
            lookAtStep(name + ", step " + steps, nodes.get(hand), before, after);
            before = after;
            stepsSeen++;
        }
        Expect.equal(name + ": status", 2, x.status());
        Expect.same(name + ": what is known at the end", knownAtTheEnd(root), places(before));
    }

    private Integer[] known(VisitGrammar x) {
        Integer[] values = new Integer[4 * nodes.size()];
        for (int node = 0; node < nodes.size(); node++) {
            for (int attribute = 0; attribute < attributes[symbolOf(node)]; attribute++) {
                values[4 * node + attribute] = x.knows(node, attribute) ? x.value(node, attribute) : null;
            }
        }
        return values;
    }

    private static String places(Integer[] values) {
        StringBuilder text = new StringBuilder();
        for (int place = 0; place < values.length; place++) {
            text.append(values[place] == null ? "" : place + " ");
        }
        return text.toString();
    }

    private String knownAtTheBeginning(int root) {
        Integer[] due = new Integer[4 * nodes.size()];
        for (int attribute = 0; attribute < attributes[symbolOf(root)]; attribute++) {
            due[4 * root + attribute] = isInherited(symbolOf(root), attribute) ? 1 : null;
        }
        return places(due);
    }

    private String knownAtTheEnd(int root) {
        Integer[] due = new Integer[4 * nodes.size()];
        markAllBelow(root, due);
        return places(due);
    }

    private void markAllBelow(int node, Integer[] due) {
        Arrays.fill(due, 4 * node, 4 * node + attributes[symbolOf(node)], 1);
        int[] family = nodes.get(node).family;
        for (int position = 1; position < family.length; position++) {
            markAllBelow(family[position], due);
        }
    }

    private void lookAtStep(String name, Node hand, Integer[] before, Integer[] after) {
        int changes = 0;
        for (int place = 0; place < after.length; place++) {
            if (after[place] == null ? before[place] != null : !after[place].equals(before[place])) {
                changes++;
                Expect.isTrue(name + ": " + place + " was set once", before[place] == null);
                lookAtSet(name + ": " + place, hand, place, before, after);
            }
        }
        Expect.isTrue(name + " sets one attribute at most", changes <= 1);
    }

    private void lookAtSet(String name, Node hand, int place, Integer[] before, Integer[] after) {
        int position = 0;
        while (position < hand.family.length && hand.family[position] != place / 4) {
            position++;
        }
        int[] rule = position < hand.family.length
                ? rules.get(hand.production)[4 * position + place % 4] : null;
        Expect.isTrue(name + " is defined by the node at hand", rule != null);
        if (rule != null) {
            Expect.same(name + " by " + Arrays.toString(rule), "" + result(rule, hand, before), "" + after[place]);
        }
    }

    /** What a rule says, or null if something that it uses is not known. */
    private static Integer result(int[] rule, Node hand, Integer[] before) {
        Integer x = rule[0] < 2 ? Integer.valueOf(0) : used(rule[1], hand, before);
        Integer y = rule[0] < 3 || rule[0] == 7 ? Integer.valueOf(0) : used(rule[2], hand, before);
        if (x == null || y == null) {
            return null;
        }
        return switch (rule[0]) {
            case 0 -> rule[1];
            case 1 -> hand.token;
            case 2 -> x;
            case 3 -> x + y;
            case 4 -> x - y;
            case 5 -> x * y;
            case 6 -> x > y ? x : y;
            default -> hand.token + x;
        };
    }

    private static Integer used(int occurrence, Node hand, Integer[] before) {
        return before[4 * hand.family[occurrence / 4] + occurrence % 4];
    }
}
