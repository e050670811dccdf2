import java.util.ArrayList;
import java.util.List;

/**
 * Runs of calls on new objects, with the answers that are due, written as rows that end with a line or
 * a semicolon: "symbol 4 0 = 1", "run 501 throws IllegalArgumentException", or "fell" alone, which must
 * not throw. Each refused call is also looked at for what it leaves behind: a second object, which was
 * spared the call, must answer all later calls alike.
 */
final class Script {
    private static final int MOST_CALLS = 512;
    private static final List<String> LATER = laterCalls();

    private record Row(String call, String due) {
        boolean holds(String answer) {
            return due.isEmpty() ? !answer.startsWith("throws") : answer.equals(due);
        }

        boolean isRefused() {
            return due.startsWith("throws") && !call.equals("analyse");
        }
    }

    private Script() {
    }

    static void due(String sentence, String... parts) {
        List<Row> rows = rows(parts);
        Expect.isTrue(sentence + ": at most 512 calls", rows.size() <= MOST_CALLS);
        compare(sentence, new VisitGrammar(), rows);
        // The model's answers stand behind other tests, so they are held to the same rows.
        compare(sentence + ", the model", new PlainModel(), rows);
        for (int i = 0; i < rows.size(); i++) {
            if (rows.get(i).isRefused()) {
                compareLater(sentence, rows.subList(0, i), rows.get(i).call);
            }
        }
    }

    static VisitGrammar made(String... parts) {
        VisitGrammar x = new VisitGrammar();
        compare("made", x, rows(parts));
        return x;
    }

    private static List<Row> rows(String... parts) {
        List<Row> rows = new ArrayList<>();
        for (String row : String.join("\n", parts).split("[\n;]")) {
            if (!row.isBlank()) {
                rows.add(row(row.strip()));
            }
        }
        return rows;
    }

    private static Row row(String text) {
        int equal = text.indexOf(" = ");
        if (equal >= 0) {
            return new Row(text.substring(0, equal), text.substring(equal + 3));
        }
        int thrown = text.indexOf(" throws ");
        return thrown < 0 ? new Row(text, "") : new Row(text.substring(0, thrown), text.substring(thrown + 1));
    }

    private static void compare(String sentence, Object x, List<Row> rows) {
        for (int i = 0; i < rows.size(); i++) {
            Row row = rows.get(i);
            String answer = Calls.answer(x, row.call);
            if (!row.holds(answer)) {
                Expect.same(sentence + ", row " + (i + 1) + ": " + row.call, row.due, answer);
            }
        }
    }

    private static void compareLater(String sentence, List<Row> before, String refused) {
        VisitGrammar spared = new VisitGrammar();
        VisitGrammar tried = new VisitGrammar();
        for (Row row : before) {
            Calls.answer(spared, row.call);
            Calls.answer(tried, row.call);
        }
        Calls.answer(tried, refused);
        Expect.isTrue(sentence + ": at most 512 calls with the later ones",
                before.size() + 1 + LATER.size() <= MOST_CALLS);
        for (String later : LATER) {
            Expect.same(sentence + ", behind the refused " + refused + ": " + later,
                    Calls.answer(spared, later), Calls.answer(tried, later));
        }
    }

    /** Asks for all that is there, goes on with the run, and then builds on what is there. */
    private static List<String> laterCalls() {
        List<String> calls = new ArrayList<>(List.of("status", "atHand", "fault 0", "fault 1", "fault 2"));
        addNumbered(calls, "visits #", 6);
        addNumbered(calls, "rank # 0", 6);
        addNumbered(calls, "rank # 3", 6);
        addNumbered(calls, "instruction # 0", 10);
        addNumbered(calls, "instruction # 1", 10);
        addNumbered(calls, "instruction # 2", 3);
        addValues(calls);
        calls.addAll(List.of("run 1", "atHand"));
        addValues(calls);
        calls.addAll(List.of("run 500", "status"));
        addValues(calls);
        calls.add("start 0");
        addNumbered(calls, "value 0 #", 4);
        calls.addAll(List.of("run 500", "status", "start 2", "run 500", "status"));
        addValues(calls);
        addNumbered(calls, "node # 1 -1 -1 -1", 4);
        addNumbered(calls, "node 0 1 # -1 -1", 3);
        addNumbered(calls, "node 1 1 # -1 -1", 3);
        calls.addAll(List.of("symbol 1 0", "analyse", "start 2", "run 500"));
        addValues(calls);
        calls.addAll(List.of("production 0 -1 -1 -1", "analyse", "fault 0", "fault 1", "fault 2"));
        calls.addAll(List.of("fell", "node 0 1 -1 -1 -1"));
        return calls;
    }

    private static void addValues(List<String> calls) {
        addNumbered(calls, "value # 0", 4);
        addNumbered(calls, "value # 1", 4);
    }

    private static void addNumbered(List<String> calls, String pattern, int count) {
        for (int number = 0; number < count; number++) {
            calls.add(pattern.replace("#", Integer.toString(number)));
        }
    }
}
