import java.lang.management.ManagementFactory;

/** All calls of one run live in one room: an object is small, and calls that do not throw make no objects. */
public final class RoomTest {
    private static final int ROUNDS = 500;

    private static int sum = 0;
    private static VisitGrammar latest;

    public static void main(String[] args) {
        callsMakeNoObjects();
        objectsAreSmall();
        Expect.finish();
    }

    private static void callsMakeNoObjects() {
        VisitGrammar x = Samples.listWithTree();
        dearCalls(x);
        long before = made();
        dearCalls(x);
        long bytes = made() - before;
        // Some bytes are the measuring's own; one array a round would be 8000 at the least.
        Expect.isTrue("calls make no objects (" + bytes + " bytes, " + sum + ")", bytes < 4000);
    }

    /** An element or a field has 4 bytes, so that a thousand objects stay within some 4 million of them. */
    private static void objectsAreSmall() {
        long before = made();
        for (int round = 0; round < ROUNDS; round++) {
            latest = new VisitGrammar();
        }
        long bytes = (made() - before) / ROUNDS;
        Expect.isTrue("an object is small (" + bytes + " bytes)", latest.status() == 0 && bytes < 16000);
    }

    private static void dearCalls(VisitGrammar x) {
        for (int round = 0; round < ROUNDS; round++) {
            x.rule(0, 0, 2, 5, 0);
            sum += x.analyse();
            sum += x.fault(0) + x.visits(1) + x.rank(1, 1) + x.instruction(1, 2);
            x.fell();
            x.node(2, 5, -1, -1, -1);
            x.node(1, 3, 0, -1, -1);
            x.node(0, 0, 1, -1, -1);
            x.give(0, round);
            x.start(2);
            sum += x.run(500) + x.status() + x.atHand() + x.value(2, 0) + (x.knows(0, 0) ? 1 : 0);
        }
    }

    private static long made() {
        return ((com.sun.management.ThreadMXBean) ManagementFactory.getThreadMXBean())
                .getThreadAllocatedBytes(Thread.currentThread().getId());
    }
}
