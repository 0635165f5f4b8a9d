import java.lang.management.ManagementFactory;

/**
 * All calls of one run live in one room, so that rows are made with the object and used again: what
 * the dearest calls make is measured in bytes, for as many of them as one object is asked.
 */
public final class RoomTest {
    private static final int CALLS = 500;
    private static final long MOST_FOR_AN_OBJECT = 70_000;
    private static final long MOST_FOR_A_RUN = 40_000;

    private static final com.sun.management.ThreadMXBean THREADS =
            (com.sun.management.ThreadMXBean) ManagementFactory.getThreadMXBean();

    private final Due due = new Due();
    private boolean isLookedAt;

    public static void main(String[] args) {
        RoomTest test = new RoomTest();
        test.due.same("the machine can measure", THREADS.isThreadAllocatedMemorySupported(), true);
        // Once without a look at it: the first calls load classes, too.
        test.measureAll();
        test.isLookedAt = true;
        test.measureAll();
        test.due.end("RoomTest");
    }

    private static long made() {
        return THREADS.getThreadAllocatedBytes(Thread.currentThread().getId());
    }

    private void measureAll() {
        newObject();
        windows();
        changesAndQuestions();
        readingsAndAdjustments();
    }

    private void newObject() {
        long before = made();
        TideTable x = new TideTable();
        small("a new object", before, MOST_FOR_AN_OBJECT);
        due.same("it is new", x.count(0), 0);
    }

    private void windows() {
        TideTable x = Tides.evenWithPort();
        long before = made();
        for (int call = 0; call < CALLS; call++) {
            x.windows(call % 2 - 1, 0, 0, 4319, call % 4);
        }
        small("windows", before, MOST_FOR_A_RUN);
    }

    /** Each question behind a change has the whole table reckoned anew. */
    private void changesAndQuestions() {
        TideTable x = Tides.evenWithPort();
        long before = made();
        for (int call = 0; call < CALLS; call += 10) {
            x.setRange(0, call);
            x.digest();
            x.setLevel(call);
            x.datum(call % 5);
            x.setRange(0, 1000);
            x.portHeight(0, 1000);
            x.setLevel(0);
            x.next(1000, true);
            x.setPort(0, true, call / 10, 100);
            x.isInOrder(0);
        }
        small("changes and questions", before, MOST_FOR_A_RUN);
    }

    private void readingsAndAdjustments() {
        TideTable x = Tides.even();
        long before = made();
        for (int call = 0; call < CALLS; call += 5) {
            x.read(call, 100);
            x.read(call, -100);
            x.residual();
            x.worst();
            x.adjust();
        }
        small("readings", before, MOST_FOR_A_RUN);
    }

    private void small(String what, long before, long most) {
        long bytes = made() - before;
        if (!isLookedAt) {
            return;
        }
        due.same(what + " made " + bytes + " bytes, are they few", bytes <= most, true);
    }
}
