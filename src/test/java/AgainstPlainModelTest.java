import java.util.Arrays;
import java.util.Random;

/**
 * Promises 1 to 18 on made-up runs of calls, each compared with PlainModel. The seeds are written
 * here, so every run of this test makes the same calls.
 */
public final class AgainstPlainModelTest {
    private static final int OBJECTS = 1500;
    private static final int CALLS = 512;
    private static final long THROWN = Long.MIN_VALUE;
    private static final int[] EDGES = {-2, -1, 0, 1, 3, 4, 5, 16, 500, 501, Integer.MIN_VALUE, Integer.MAX_VALUE};

    private final Random random;
    private final int sideways;
    private final int chains;
    private final VisitGrammar program = new VisitGrammar();
    private final PlainModel model = new PlainModel();
    private final StringBuilder calls = new StringBuilder();
    private int left = CALLS;
    private boolean wrong = false;

    private final int[] attributes = new int[6];
    private final int[] inherited = new int[6];
    private int symbols;
    private final int[][] positions = new int[10][];
    private int productions;
    private final int[] nodeSymbols = new int[40];
    private final boolean[] taken = new boolean[40];
    private int nodes;

    private static final int[] seen = new int[4];
    private static int finishedRuns;
    private static int longSymbols;

    private AgainstPlainModelTest(int seed) {
        random = new Random(seed);
        sideways = random.nextInt(101);
        chains = random.nextInt(101);
    }

    public static void main(String[] args) {
        for (int seed = 0; seed < OBJECTS; seed++) {
            new AgainstPlainModelTest(seed).play();
        }
        System.out.println("analyses without fault, incomplete, circular, not ordered: " + Arrays.toString(seen)
                + "; runs to the end: " + finishedRuns + "; symbols of 3 visits: " + longSymbols);
        for (int kind = 0; kind < 4; kind++) {
            Expect.isTrue("analyses of kind " + kind + " were many", seen[kind] > 100);
        }
        Expect.isTrue("finished runs were many", finishedRuns > 1000);
        Expect.isTrue("symbols of 3 visits were many", longSymbols > 100);
        Expect.finish();
    }

    private void play() {
        for (int count = 1 + random.nextInt(4); count > 0; count--) {
            makeSymbol();
        }
        for (int count = 1 + random.nextInt(5); count > 0; count--) {
            makeProduction();
        }
        while (left > 0 && !wrong) {
            switch (random.nextInt(16)) {
                case 0 -> wrongCall();
                case 1 -> changeGrammar();
                case 2, 3, 4 -> giveAllRules(random.nextInt(8) == 0 ? 40 : 4);
                case 5, 6 -> analyse();
                case 7, 8 -> growTree();
                case 9 -> askAnalysis();
                case 10 -> call("fell");
                default -> runTree();
            }
        }
    }

    private void makeSymbol() {
        int a = random.nextInt(8) == 0 ? random.nextInt(3) : 2 + random.nextInt(3);
        int i = random.nextInt(100) < chains ? 5 << random.nextInt(2) : random.nextInt(16);
        if (call("symbol", a, i) >= 0) {
            attributes[symbols] = a;
            inherited[symbols++] = i;
        }
    }

    private void makeProduction() {
        int size = 1 + random.nextInt(4);
        int[] p = {-1, -1, -1, -1};
        for (int position = 0; position < size; position++) {
            p[position] = random.nextInt(symbols);
        }
        if (call("production", p) >= 0) {
            positions[productions++] = Arrays.copyOf(p, size);
        }
    }

    private void changeGrammar() {
        int which = random.nextInt(24);
        if (which == 0) {
            makeSymbol();
        } else if (which == 1) {
            makeProduction();
        } else {
            giveRule(random.nextInt(productions), random.nextInt(16), 50);
        }
    }

    private void giveAllRules(int wildness) {
        for (int p = 0; p < productions; p++) {
            for (int occurrence = 0; occurrence < 16; occurrence++) {
                boolean skipped = random.nextInt(400) == 0;
                if (isToDefine(p, occurrence) && !skipped) {
                    giveRule(p, occurrence, wildness);
                }
            }
        }
        analyse();
    }

    /** The wilder, the more rules use occurrences that lead to circles. */
    private void giveRule(int p, int occurrence, int wildness) {
        int form = random.nextInt(8);
        boolean chained = occurrence % 4 > 0 && !isToDefine(p, occurrence - 1) && random.nextInt(100) < chains;
        int x = chained ? occurrence - 1 : chosenUse(p, wildness);
        int y = chained ? occurrence - 1 : chosenUse(p, wildness);
        if (x < 0 || y < 0) {
            form = random.nextInt(2);
        }
        call("rule", p, occurrence, form, x, y);
    }

    private int chosenUse(int p, int wildness) {
        boolean wild = random.nextInt(100) < wildness;
        int found = -1;
        for (int tries = 0; tries < 8; tries++) {
            int o = random.nextInt(4 * positions[p].length);
            if (o % 4 < attributes[positions[p][o / 4]] && (wild || !isToDefine(p, o))) {
                found = o;
                // Uses of the right make more visits and more circles, so their share differs by object.
                if (wild || o >= 4 == random.nextInt(100) < sideways) {
                    return o;
                }
            }
        }
        return random.nextInt(3) == 0 ? found : -1;
    }

    private boolean isToDefine(int p, int o) {
        if (o / 4 >= positions[p].length || o % 4 >= attributes[positions[p][o / 4]]) {
            return false;
        }
        boolean isInherited = (inherited[positions[p][o / 4]] >> o % 4 & 1) == 1;
        return isInherited == (o >= 4);
    }

    private void analyse() {
        boolean fine = call("analyse") >= 0;
        seen[(int) Math.max(0, call("fault", 0))]++;
        call("fault", 1);
        call("fault", 2);
        if (fine) {
            askAnalysis();
        }
    }

    private void askAnalysis() {
        int s = random.nextInt(symbols);
        longSymbols += call("visits", s) == 3 ? 1 : 0;
        for (int attribute = 0; attribute < attributes[s]; attribute++) {
            call("rank", s, attribute);
        }
        int p = random.nextInt(productions);
        for (int k = 0; k < 32 && call("instruction", p, k) >= 0; k++) {
            continue;
        }
    }

    private void growTree() {
        for (int tries = 0; tries < 12; tries++) {
            int p = random.nextInt(productions);
            int[] c = {p, random.nextInt(), -1, -1, -1};
            for (int position = 1; position < positions[p].length; position++) {
                c[position + 1] = freeNode(positions[p][position]);
            }
            call("node", c);
        }
    }

    private int freeNode(int symbol) {
        for (int tries = 0; nodes > 0 && tries < 20; tries++) {
            int node = random.nextInt(nodes);
            if (!taken[node] && nodeSymbols[node] == symbol) {
                return node;
            }
        }
        return -1;
    }

    private void runTree() {
        call("give", random.nextInt(4), random.nextInt());
        if (nodes == 0 || call("start", random.nextInt(4) == 0 ? random.nextInt(nodes) : nodes - 1) < 0) {
            return;
        }
        while (left > 0 && call("status") == 1) {
            call("run", random.nextInt(4) == 0 ? 500 : random.nextInt(12));
            int node = (int) Math.max(0, call("atHand"));
            call("knows", node, random.nextInt(4));
            call("value", random.nextInt(nodes), random.nextInt(4));
        }
        finishedRuns += call("status") == 2 ? 1 : 0;
        for (int asked = 0; asked < 6; asked++) {
            call("value", random.nextInt(nodes), random.nextInt(4));
        }
    }

    private void wrongCall() {
        String[] names = {"symbol 2", "production 4", "rule 5", "fault 1", "visits 1", "rank 2", "instruction 2",
            "node 5", "give 2", "start 1", "run 1", "knows 2", "value 2"};
        String[] name = names[random.nextInt(names.length)].split(" ");
        int[] a = new int[Integer.parseInt(name[1])];
        for (int i = 0; i < a.length; i++) {
            a[i] = random.nextBoolean() ? EDGES[random.nextInt(EDGES.length)] : random.nextInt(12) - 1;
        }
        // Symbols and productions that by chance will do would use up the room for sensible ones.
        if (name[0].equals("symbol")) {
            a[0] = random.nextBoolean() ? 5 : -1;
        } else if (name[0].equals("production")) {
            a[random.nextInt(3)] = symbols;
        }
        call(name[0], a);
    }

    /** Makes a call on both: what they answered, 0 for nothing and false, or a number below -1 if they threw. */
    private long call(String name, int... a) {
        if (left == 0 || wrong) {
            return THROWN;
        }
        left--;
        StringBuilder text = new StringBuilder(name);
        for (int argument : a) {
            text.append(' ').append(argument);
        }
        calls.append(text).append("; ");
        String due = Calls.answer(model, text.toString());
        String got = Calls.answer(program, text.toString());
        if (!due.equals(got)) {
            wrong = true;
            Expect.same(calls.toString(), due, got);
        }
        long answer = number(due);
        if (answer >= 0) {
            follow(name, a);
        }
        return answer;
    }

    private static long number(String answer) {
        return switch (answer) {
            case "done", "false" -> 0;
            case "true" -> 1;
            default -> answer.startsWith("throws") ? THROWN : Long.parseLong(answer);
        };
    }

    private void follow(String name, int[] a) {
        if (name.equals("fell")) {
            nodes = 0;
            Arrays.fill(taken, false);
        } else if (name.equals("node")) {
            nodeSymbols[nodes++] = positions[a[0]][0];
            for (int i = 2; i < 5; i++) {
                if (a[i] >= 0) {
                    taken[a[i]] = true;
                }
            }
        }
    }
}
