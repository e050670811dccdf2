/** Promise 4: what rules compute; GrammarEdgesTest has the edges of promises 1 to 4. */
public final class GrammarTest {
    public static void main(String[] args) {
        rulesReplace();
        forms();
        Expect.finish();
    }

    private static void rulesReplace() {
        VisitGrammar x = new VisitGrammar();
        x.symbol(2, 0);
        x.production(0, -1, -1, -1);
        x.rule(0, 0, 2, 0, 0);
        x.rule(0, 1, 2, 0, 0);
        Expect.unsupportedThrown("P4 a rule that uses what it defines", () -> x.analyse());
        x.rule(0, 0, 0, 8, 0);
        Expect.same("P4 sequence", "0 1 1001", x.analyse() == 3 ? Samples.sequence(x, 0) : "");
        x.rule(0, 1, 0, 9, 0);
        x.rule(0, 0, 2, 1, 0);
        x.analyse();
        Expect.same("P4 sequence with other rules", "1 0 1001", Samples.sequence(x, 0));
        x.node(0, 0, -1, -1, -1);
        x.start(0);
        x.run(500);
        Expect.equal("P4 the new rule's value", 9, x.value(0, 0));
    }

    private static void forms() {
        int[][] pairs = {{3, 5}, {5, 3}, {-7, 2}, {2, -7}, {0, 0}, {1000, 1000}, {-4, -9}};
        VisitGrammar x = new VisitGrammar();
        x.symbol(3, 3);
        for (int form = 0; form < 8; form++) {
            x.production(0, -1, -1, -1);
            x.rule(form, 2, form, form == 0 ? -123 : 0, form == 0 ? 77 : 1);
        }
        x.analyse();
        for (int[] p : pairs) {
            x.fell();
            x.give(0, p[0]);
            x.give(1, p[1]);
            int[] due = {-123, p[1], p[0], p[0] + p[1], p[0] - p[1], p[0] * p[1],
                p[0] > p[1] ? p[0] : p[1], p[1] + p[0]};
            for (int form = 0; form < 8; form++) {
                x.node(form, p[1], -1, -1, -1);
                x.start(form);
                x.run(1);
                Expect.equal("P4 form " + form + " of " + p[0] + " and " + p[1], due[form], x.value(form, 2));
            }
        }
    }
}
