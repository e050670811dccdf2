import java.util.ArrayList;
import java.util.List;

/**
 * Every call with every mixture of arguments at their edges, in every kind of state, compared with
 * PlainModel. A call that both refuse must leave the same answers behind, and so must one that both take.
 */
public final class EveryEdgeTest {
    private static final int MOST_CALLS = 512;

    private static final String[] STATES = {
        "",
        "symbol 0 0\n",
        "symbol 4 5; production 0 0 0 0\n",
        Samples.LIST,
        Samples.LIST_WITH_TREE,
        Samples.GOING,
        Samples.GOING + "run 500\n",
        Samples.GOING + "run 500; fell\n",
        Samples.LIST_WITH_TREE + "production 0 -1 -1 -1; analyse\n",
        Samples.CIRCULAR + "node 0 0 -1 -1 -1; analyse\n",
        Samples.UNORDERED + "node 0 0 -1 -1 -1; node 0 0 -1 -1 -1; node 1 0 0 1 -1; analyse\n",
        Samples.THREE_VISITS + "node 1 4 -1 -1 -1; node 0 0 0 -1 -1; analyse; start 1; run 4\n",
        full(),
    };

    /** Each argument's edges, with blanks between them. */
    private static final String[][] CALLS = {
        {"symbol", "MIN -1 0 1 4 5 MAX", "MIN -1 0 5 16 MAX"},
        {"production", "MIN -1 0 1 2 5 6 MAX", "MIN -2 -1 0 1 5 6", "-2 -1 0 1 6 MAX", "MIN -1 0 1 6"},
        {"rule", "MIN -1 0 1 3 9 10 MAX", "MIN -1 0 1 2 3 4 5 6 7 8 12 15 16 MAX", "MIN -1 0 1 2 3 6 7 8 MAX",
            "MIN -1 0 1 2 4 5 15 16", "-1 0 1 3 5 16 MAX"},
        {"analyse"},
        {"fault", "MIN -1 0 1 2 3 MAX"},
        {"visits", "MIN -1 0 1 2 5 6 MAX"},
        {"rank", "MIN -1 0 1 2 5 6 MAX", "MIN -1 0 1 2 3 4 5 MAX"},
        {"instruction", "MIN -1 0 1 2 3 9 10 MAX", "MIN -1 0 1 2 3 4 5 19 20 31 32 33 MAX"},
        {"node", "MIN -1 0 1 2 3 9 10 MAX", "MIN 7", "MIN -2 -1 0 1 2 3 39 40 MAX", "-2 -1 0 1 2 40", "-2 -1 0 1 39"},
        {"fell"},
        {"give", "MIN -1 0 1 2 3 4 MAX", "MIN 0 MAX"},
        {"start", "MIN -1 0 1 2 3 39 40 MAX"},
        {"run", "MIN -1 0 1 2 7 499 500 501 MAX"},
        {"status"},
        {"atHand"},
        {"knows", "MIN -1 0 1 2 3 39 40 MAX", "MIN -1 0 1 2 3 4 MAX"},
        {"value", "MIN -1 0 1 2 3 39 40 MAX", "MIN -1 0 1 2 3 4 MAX"},
    };

    /** Asked behind each call that was taken, and behind runs of refused ones. */
    private static final String[] LATER = {
        "status", "atHand", "fault 0", "fault 1", "fault 2", "visits 0", "visits 1", "rank 0 0", "rank 1 1",
        "instruction 0 0", "instruction 0 1", "instruction 1 0", "instruction 1 1", "knows 0 0", "value 0 1",
        "value 1 0", "run 2", "atHand", "value 0 0", "run 500", "status", "value 0 1", "value 1 1", "value 2 0",
        "node 0 1 -1 -1 -1", "node 1 1 0 -1 -1", "node 2 1 -1 -1 -1", "analyse", "fault 0", "fault 1", "fault 2",
        "start 0", "value 0 0", "value 0 2", "run 500", "value 0 1", "symbol 1 0", "production 0 -1 -1 -1",
    };

    private final String[] setting;
    private VisitGrammar program;
    private PlainModel model;
    private int calls;

    private EveryEdgeTest(String state) {
        setting = state.isEmpty() ? new String[0] : state.strip().split("\\s*[\n;]\\s*");
        renew();
    }

    public static void main(String[] args) {
        long made = 0;
        for (String state : STATES) {
            EveryEdgeTest test = new EveryEdgeTest(state);
            for (String[] call : CALLS) {
                made += test.tryAll(mixtures(call));
            }
        }
        System.out.println("calls at their edges: " + made);
        Expect.finish();
    }

    /** Six symbols, ten productions and forty nodes, with a run that goes on. */
    private static String full() {
        StringBuilder rows = new StringBuilder("symbol 2 1\n".repeat(6));
        for (int production = 0; production < 10; production++) {
            rows.append(production == 0 ? "production 5 -1 -1 -1\n" : "production 5 5 -1 -1\n");
            rows.append("rule ").append(production).append(" 1 7 0 0\n");
            rows.append(production == 0 ? "" : "rule " + production + " 4 7 0 0\n");
        }
        rows.append("node 0 1 -1 -1 -1\n".repeat(20));
        for (int child = 0; child < 20; child++) {
            rows.append("node 9 2 ").append(child).append(" -1 -1\n");
        }
        return rows.append("analyse; start 39; run 2\n").toString();
    }

    private static List<String> mixtures(String[] call) {
        List<String> all = List.of(call[0]);
        for (int argument = 1; argument < call.length; argument++) {
            List<String> longer = new ArrayList<>();
            for (String before : all) {
                for (String edge : call[argument].split(" ")) {
                    longer.add(before + " " + edge);
                }
            }
            all = longer;
        }
        return all;
    }

    private int tryAll(List<String> mixtures) {
        for (String call : mixtures) {
            boolean taken = !compare(call).startsWith("throws");
            if (taken || calls == MOST_CALLS - LATER.length) {
                askLater(call);
                renew();
            }
        }
        askLater("the refused calls of " + mixtures.get(0));
        renew();
        return mixtures.size();
    }

    private void askLater(String behind) {
        for (String later : LATER) {
            String due = Calls.answer(model, later);
            Expect.same(later + " behind " + behind, due, Calls.answer(program, later));
        }
    }

    private String compare(String call) {
        String due = Calls.answer(model, call);
        Expect.same(call, due, Calls.answer(program, call));
        calls++;
        return due;
    }

    private void renew() {
        program = new VisitGrammar();
        model = new PlainModel();
        calls = 0;
        for (String call : setting) {
            compare(call);
        }
    }
}
