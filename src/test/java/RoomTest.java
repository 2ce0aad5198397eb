import java.lang.management.ManagementFactory;

/** What calls and constructors take of the one room in which all calls of a run live. */
final class RoomTest {
    private static final int CALLS = 500;
    private static final Due due = new Due();
    private static final com.sun.management.ThreadMXBean THREADS =
            (com.sun.management.ThreadMXBean) ManagementFactory.getThreadMXBean();

    /** What one step does; the number is that of the step. */
    private interface Step {
        void on(StoodMinutes x, int step);
    }

    public static void main(String[] args) {
        constructor();
        calls("come, partner and bestLine", 5, RoomTest::crowd);
        calls("minutes and undo", 1, (x, i) -> {
            if (i % 3 == 2) {
                x.undo();
            } else {
                x.minutes(60);
            }
        });
        calls("merge and set", 1, (x, i) -> {
            if (i % 2 == 0) {
                x.merge(i / 2 % 2, 1 - i / 2 % 2);
            } else {
                x.set(3, 1 + i % 5);
            }
        });
        calls("simulate", 1, (x, i) -> x.simulate(i, 99));
        calls("runScript", 1, (x, i) -> x.runScript(3, 600606006060060L));
        calls("willPay, partner and longest", 3, (x, i) -> {
            x.willPay(999);
            x.partner(i % 5);
            x.longest();
        });
        calls("save and restore", 2, (x, i) -> {
            x.save(i % 2);
            x.restore(i % 2);
        });
        calls("text", 3, RoomTest::text);
        due.end("RoomTest");
    }

    private static void crowd(StoodMinutes x, int i) {
        if (x.about(2) < 30 && x.line(i % 2, 1) < 12) {
            x.come(i % 2, i % 3);
        }
        x.partner(i % 5);
        x.bestLine();
    }

    private static void text(StoodMinutes x, int i) {
        if (i % 64 == 0) {
            x.clearText();
            Seen.write(x, "W20304c00c11t9x0100j01g00");
        }
        x.errorPosition();
        x.load();
    }

    private static long taken() {
        return THREADS.getCurrentThreadAllocatedBytes();
    }

    private static void constructor() {
        new StoodMinutes().minutes(1);
        long before = taken();
        StoodMinutes x = new StoodMinutes();
        long bytes = taken() - before;
        due.compare("a new object takes less than 64 KiB", "true", String.valueOf(bytes < 65536 && x.about(0) == 0));
    }

    /** Does as many steps, of so many calls each, as an object has calls. */
    private static void calls(String told, int callsOfAStep, Step step) {
        StoodMinutes x = new StoodMinutes();
        x.open(4);
        for (int p = 0; p < 6; p++) {
            x.come(p % 2, p % 3);
        }
        step.on(x, 0);
        long before = taken();
        for (int i = 1; i < CALLS / callsOfAStep; i++) {
            step.on(x, i);
        }
        long bytes = taken() - before;
        due.compare(told + ": calls make no objects (" + bytes + " bytes)", "true", String.valueOf(bytes < 4096));
    }
}
