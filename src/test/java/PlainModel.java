import java.util.ArrayList;
import java.util.HashMap;
import java.util.List;
import java.util.Map;

/**
 * The document's words once more, as directly as they can be written: sets of pairs that grow until
 * nothing changes, instructions as texts, a run that keeps its path. Shares no code with the program.
 */
final class PlainModel {
    record Symbol(int attributes, int inherited) {
        boolean isInherited(int attribute) {
            return (inherited & 1 << attribute) != 0;
        }
    }

    record Rule(int form, int x, int y) {
        List<Integer> used() {
            return switch (form) {
                case 0, 1 -> List.of();
                case 2, 7 -> List.of(x);
                default -> List.of(x, y);
            };
        }
    }

    static final class Production {
        final List<Integer> symbols = new ArrayList<>();
        final Map<Integer, Rule> rules = new HashMap<>();
        final boolean[][] leads = new boolean[16][16];
        final List<Integer> sequence = new ArrayList<>();
    }

    static final class Node {
        int production;
        int token;
        final List<Node> family = new ArrayList<>();
        Node parent;
        int done;
        final Map<Integer, Integer> known = new HashMap<>();
    }

    private final List<Symbol> symbols = new ArrayList<>();
    private final List<Production> productions = new ArrayList<>();
    private final List<Node> nodes = new ArrayList<>();
    private final int[] given = new int[4];
    private final int[] fault = {0, -1, -1};
    private boolean analysed;
    private boolean[][][] attributeLeads;
    private int[][] ranks;
    private int[] visits;
    private Node root;
    private Node hand;
    private boolean done;

    int symbol(int attributes, int inherited) {
        check(attributes >= 0 && attributes <= 4, new IllegalArgumentException());
        check(symbols.size() < 6, new IllegalStateException());
        drop();
        symbols.add(new Symbol(attributes, inherited));
        return symbols.size() - 1;
    }

    int production(int left, int right1, int right2, int right3) {
        check(within(left, symbols.size()), new IllegalArgumentException());
        Production made = new Production();
        made.symbols.add(left);
        boolean ended = false;
        for (int symbol : new int[] {right1, right2, right3}) {
            if (symbol == -1) {
                ended = true;
            } else {
                check(!ended && within(symbol, symbols.size()), new IllegalArgumentException());
                made.symbols.add(symbol);
            }
        }
        check(productions.size() < 10, new IllegalStateException());
        drop();
        productions.add(made);
        return productions.size() - 1;
    }

    void rule(int production, int occurrence, int form, int x, int y) {
        check(within(production, productions.size()), new IndexOutOfBoundsException());
        Production p = productions.get(production);
        check(toDefine(p).contains(occurrence), new IllegalArgumentException());
        check(within(form, 8), new IllegalArgumentException());
        Rule made = new Rule(form, x, y);
        for (int used : made.used()) {
            check(occurrences(p).contains(used), new IllegalArgumentException());
        }
        drop();
        p.rules.put(occurrence, made);
    }

    int analyse() {
        drop();
        setFault(0, -1, -1);
        check(!productions.isEmpty(), new IllegalStateException());
        for (int n = 0; n < productions.size(); n++) {
            for (int occurrence : toDefine(productions.get(n))) {
                if (!productions.get(n).rules.containsKey(occurrence)) {
                    setFault(1, n, occurrence);
                    throw new IllegalStateException();
                }
            }
        }
        makeLeads();
        throwIfCircle(2);
        makeRanks();
        makeOrder();
        throwIfCircle(3);
        int length = 0;
        for (Production p : productions) {
            makeSequence(p);
            length += p.sequence.size();
        }
        analysed = true;
        return length;
    }

    int fault(int what) {
        return within(what, 3) ? fault[what] : -1;
    }

    int visits(int symbol) {
        check(analysed, new IllegalStateException());
        check(within(symbol, symbols.size()), new IndexOutOfBoundsException());
        return visits[symbol];
    }

    int rank(int symbol, int attribute) {
        check(analysed, new IllegalStateException());
        check(within(symbol, symbols.size()), new IndexOutOfBoundsException());
        check(within(attribute, symbols.get(symbol).attributes), new IndexOutOfBoundsException());
        return ranks[symbol][attribute];
    }

    int instruction(int production, int k) {
        check(analysed, new IllegalStateException());
        check(within(production, productions.size()) && k >= 0, new IndexOutOfBoundsException());
        List<Integer> sequence = productions.get(production).sequence;
        return k < sequence.size() ? sequence.get(k) : -1;
    }

    int node(int production, int token, int child1, int child2, int child3) {
        check(within(production, productions.size()), new IllegalArgumentException());
        List<Integer> wanted = productions.get(production).symbols;
        int[] children = {child1, child2, child3};
        Node made = new Node();
        made.production = production;
        made.token = token;
        made.family.add(made);
        for (int position = 1; position <= 3; position++) {
            int child = children[position - 1];
            if (position >= wanted.size()) {
                check(child == -1, new IllegalArgumentException());
            } else {
                check(within(child, nodes.size()), new IllegalArgumentException());
                Node taken = nodes.get(child);
                check(taken.parent == null && !made.family.contains(taken), new IllegalArgumentException());
                check(symbolOf(taken) == wanted.get(position), new IllegalArgumentException());
                made.family.add(taken);
            }
        }
        check(nodes.size() < 40, new IllegalStateException());
        for (Node child : made.family.subList(1, made.family.size())) {
            child.parent = made;
        }
        nodes.add(made);
        return nodes.size() - 1;
    }

    void fell() {
        endRun();
        nodes.clear();
    }

    void give(int attribute, int value) {
        check(within(attribute, 4), new IndexOutOfBoundsException());
        given[attribute] = value;
    }

    void start(int number) {
        check(analysed, new IllegalStateException());
        check(within(number, nodes.size()), new IndexOutOfBoundsException());
        endRun();
        root = nodes.get(number);
        hand = root;
        Symbol symbol = symbols.get(symbolOf(root));
        for (int attribute = 0; attribute < symbol.attributes; attribute++) {
            if (symbol.isInherited(attribute)) {
                root.known.put(attribute, given[attribute]);
            }
        }
    }

    int run(int steps) {
        check(steps >= 0 && steps <= 500, new IllegalArgumentException());
        check(root != null, new IllegalStateException());
        int made = 0;
        for (; made < steps && !done; made++) {
            step();
        }
        return made;
    }

    int status() {
        return root == null ? 0 : done ? 2 : 1;
    }

    int atHand() {
        return root == null || done ? -1 : nodes.indexOf(hand);
    }

    boolean knows(int node, int attribute) {
        check(within(node, nodes.size()), new IndexOutOfBoundsException());
        Node asked = nodes.get(node);
        check(within(attribute, symbols.get(symbolOf(asked)).attributes), new IndexOutOfBoundsException());
        return asked.known.containsKey(attribute);
    }

    int value(int node, int attribute) {
        check(knows(node, attribute), new IllegalStateException());
        return nodes.get(node).known.get(attribute);
    }

    private static boolean within(int number, int count) {
        return number >= 0 && number < count;
    }

    private static void check(boolean holds, RuntimeException otherwise) {
        if (!holds) {
            throw otherwise;
        }
    }

    private void drop() {
        analysed = false;
        endRun();
    }

    private void endRun() {
        root = null;
        hand = null;
        done = false;
        for (Node node : nodes) {
            node.done = 0;
            node.known.clear();
        }
    }

    private void setFault(int kind, int production, int occurrence) {
        fault[0] = kind;
        fault[1] = production;
        fault[2] = occurrence;
    }

    private Symbol symbolAt(Production p, int occurrence) {
        return symbols.get(p.symbols.get(occurrence / 4));
    }

    private int symbolOf(Node node) {
        return productions.get(node.production).symbols.get(0);
    }

    private List<Integer> occurrences(Production p) {
        List<Integer> all = new ArrayList<>();
        for (int position = 0; position < p.symbols.size(); position++) {
            for (int attribute = 0; attribute < symbols.get(p.symbols.get(position)).attributes; attribute++) {
                all.add(4 * position + attribute);
            }
        }
        return all;
    }

    private List<Integer> toDefine(Production p) {
        List<Integer> all = occurrences(p);
        all.removeIf(o -> symbolAt(p, o).isInherited(o % 4) == (o / 4 == 0));
        return all;
    }

    private void makeLeads() {
        attributeLeads = new boolean[symbols.size()][4][4];
        for (Production p : productions) {
            takeRules(p);
        }
        boolean changed = true;
        while (changed) {
            changed = false;
            for (Production p : productions) {
                changed |= addThirds(p.leads) | exchange(p);
            }
        }
    }

    private void takeRules(Production p) {
        for (boolean[] row : p.leads) {
            java.util.Arrays.fill(row, false);
        }
        p.rules.forEach((defined, rule) -> rule.used().forEach(used -> p.leads[used][defined] = true));
    }

    private static boolean addThirds(boolean[][] leads) {
        boolean changed = false;
        for (int a = 0; a < 16; a++) {
            for (int b = 0; b < 16; b++) {
                for (int c = 0; leads[a][b] && c < 16; c++) {
                    if (leads[b][c] && !leads[a][c]) {
                        leads[a][c] = true;
                        changed = true;
                    }
                }
            }
        }
        return changed;
    }

    private boolean exchange(Production p) {
        boolean changed = false;
        for (int a : occurrences(p)) {
            for (int b : occurrences(p)) {
                if (a / 4 == b / 4 && a != b) {
                    boolean[] ofSymbol = attributeLeads[p.symbols.get(a / 4)][a % 4];
                    changed |= p.leads[a][b] != ofSymbol[b % 4];
                    p.leads[a][b] |= ofSymbol[b % 4];
                    ofSymbol[b % 4] |= p.leads[a][b];
                }
            }
        }
        return changed;
    }

    private void throwIfCircle(int kind) {
        for (int n = 0; n < productions.size(); n++) {
            for (int occurrence = 0; occurrence < 16; occurrence++) {
                if (productions.get(n).leads[occurrence][occurrence]) {
                    setFault(kind, n, occurrence);
                    throw new UnsupportedOperationException();
                }
            }
        }
    }

    private void makeRanks() {
        ranks = new int[symbols.size()][4];
        visits = new int[symbols.size()];
        for (int s = 0; s < symbols.size(); s++) {
            int greatest = 0;
            for (int attribute = 0; attribute < symbols.get(s).attributes; attribute++) {
                ranks[s][attribute] = rankOf(s, attribute);
                greatest = Math.max(greatest, ranks[s][attribute]);
            }
            visits[s] = Math.max(1, (greatest + 1) / 2);
        }
    }

    private int rankOf(int s, int attribute) {
        int rank = symbols.get(s).isInherited(attribute) ? 2 : 1;
        for (int other = 0; other < 4; other++) {
            if (attributeLeads[s][attribute][other]) {
                while (rank < rankOf(s, other)) {
                    rank += 2;
                }
            }
        }
        return rank;
    }

    private int visitOf(Production p, int occurrence) {
        int s = p.symbols.get(occurrence / 4);
        return visits[s] - (ranks[s][occurrence % 4] - 1) / 2;
    }

    private void makeOrder() {
        for (Production p : productions) {
            takeRules(p);
            for (int a : occurrences(p)) {
                for (int b : occurrences(p)) {
                    int s = p.symbols.get(a / 4);
                    p.leads[a][b] |= a / 4 == b / 4
                            && (attributeLeads[s][a % 4][b % 4] || ranks[s][a % 4] > ranks[s][b % 4]);
                }
            }
            while (addThirds(p.leads)) {
                continue;
            }
        }
    }

    private void makeSequence(Production p) {
        List<Integer> all = new ArrayList<>(toDefine(p));
        for (int position = 1; position < p.symbols.size(); position++) {
            for (int visit = 1; visit <= visits[p.symbols.get(position)]; visit++) {
                all.add(100 * position + visit);
            }
        }
        for (int visit = 1; visit <= visits[p.symbols.get(0)]; visit++) {
            all.add(1000 + visit);
        }
        p.sequence.clear();
        while (p.sequence.size() < all.size()) {
            int before = p.sequence.size();
            for (int instruction : all) {
                if (!p.sequence.contains(instruction) && ready(p, instruction, all.size())) {
                    p.sequence.add(instruction);
                    break;
                }
            }
            check(p.sequence.size() > before, new AssertionErrorAsRuntime());
        }
    }

    /** Not one of the exceptions that the document names, so that a comparison shows it. */
    static final class AssertionErrorAsRuntime extends RuntimeException {
        private static final long serialVersionUID = 1L;
    }

    private boolean ready(Production p, int instruction, int all) {
        if (instruction < 100) {
            return p.rules.get(instruction).used().stream().allMatch(used -> isKnown(p, used));
        }
        int visit = instruction % 100;
        if (visit > 1 && !p.sequence.contains(instruction - 1)) {
            return false;
        }
        int position = instruction < 1000 ? instruction / 100 : 0;
        for (int occurrence : toDefine(p)) {
            if (occurrence / 4 == position && visitOf(p, occurrence) == visit
                    && !p.sequence.contains(occurrence)) {
                return false;
            }
        }
        return position > 0 || visit < visits[p.symbols.get(0)] || p.sequence.size() == all - 1;
    }

    private boolean isKnown(Production p, int occurrence) {
        if (toDefine(p).contains(occurrence)) {
            return p.sequence.contains(occurrence);
        }
        int visit = visitOf(p, occurrence);
        if (occurrence / 4 > 0) {
            return p.sequence.contains(occurrence / 4 * 100 + visit);
        }
        return visit == 1 || p.sequence.contains(1000 + visit - 1);
    }

    private void step() {
        Production p = productions.get(hand.production);
        int instruction = p.sequence.get(hand.done++);
        if (instruction < 100) {
            set(p, instruction);
        } else if (instruction < 1000) {
            hand = hand.family.get(instruction / 100);
        } else if (hand != root) {
            hand = hand.parent;
        } else {
            done = hand.done == p.sequence.size();
        }
    }

    private void set(Production p, int occurrence) {
        Rule rule = p.rules.get(occurrence);
        List<Integer> v = new ArrayList<>();
        for (int used : rule.used()) {
            v.add(hand.family.get(used / 4).known.get(used % 4));
        }
        int result = switch (rule.form) {
            case 0 -> rule.x;
            case 1 -> hand.token;
            case 2 -> v.get(0);
            case 3 -> v.get(0) + v.get(1);
            case 4 -> v.get(0) - v.get(1);
            case 5 -> v.get(0) * v.get(1);
            case 6 -> Math.max(v.get(0), v.get(1));
            default -> hand.token + v.get(0);
        };
        // Each attribute is set once: a second SET of one would be a fault of the sequences.
        check(hand.family.get(occurrence / 4).known.put(occurrence % 4, result) == null,
                new AssertionErrorAsRuntime());
    }
}
