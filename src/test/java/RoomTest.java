import com.sun.management.ThreadMXBean;
import java.lang.management.ManagementFactory;

/** The room that all calls of a run share (LANGUAGE.md, rule 12): a keeper is small, and what may come often makes nothing. */
public final class RoomTest {
    private static final ThreadMXBean THREADS = (ThreadMXBean) ManagementFactory.getThreadMXBean();
    private static final int TIMES = 400;
    private static long answers = 0;

    private interface Act {
        long on(ClockKeeper k, int i);
    }

    private RoomTest() {
    }

    public static void main(String[] args) {
        aKeeper();
        ClockKeeper k = crowd();
        makesNothing("warmth", k, (c, i) -> c.warmth(i % 50));
        makesNothing("hands", k, (c, i) -> c.hands(i % 8, 43200, true));
        makesNothing("wait", k, (c, i) -> c.wait(100));
        makesNothing("foretold", k, (c, i) -> c.foretold(i % 8, 500, i % 7));
        makesNothing("told", k, (c, i) -> c.told(i % 8, i % 9));
        makesNothing("mend", k, (c, i) -> c.mend(i % 8, i % 3));
        makesNothing("heard", k, (c, i) -> c.heard(i % 99, 5, 39999 - i % 50, i % 3));
        makesNothing("witness", k, (c, i) -> c.witness(i % 99, 5, i % 12 + 1, i % 9));
        makesNothing("round", k, (c, i) -> c.round(63, i % 8));
        makesNothing("plan", k, (c, i) -> c.plan(15, 10, 2, i % 11));
        makesNothing("read", k, (c, i) -> c.read(i % 8, i, i));
        makesNothing("regulated", k, (c, i) -> c.regulated(i % 8, 100000));
        makesNothing("beyond", k, (c, i) -> c.beyond(i % 8, 1000 * i, 100000));
        makesNothing("law", k, (c, i) -> c.law(i % 8, i));
        makesNothing("lawful", k, (c, i) -> c.lawful(i, 100000));
        makesNothing("refit", k, (c, i) -> c.feed(0x72756e20, 0x33313b20, 0x20202020, 0x20202020, 0x20202020) + c.refit(i % 8, 20));
        Due.is("something was answered", answers != 0 ? 1 : 0, 1);
        Due.end();
    }

    private static long made() {
        return THREADS.getThreadAllocatedBytes(Thread.currentThread().getId());
    }

    private static ClockKeeper crowd() {
        ClockKeeper k = new ClockKeeper();
        for (int i = 0; i < 8; i++) {
            Due.clock(k, 9 * i, 5 * i, "run 31;strokes 2000;quarters 4 4 4 4;strike wheel 1,2,3,4,5,6,7,8,9,10,11,12;");
        }
        return k;
    }

    /** Eight clocks and a plan beside it: some 60,000 elements, of the 7.3 million that there are. */
    private static void aKeeper() {
        crowd().plan(15, 10, 2, 0);
        long before = made();
        crowd().plan(15, 10, 2, 0);
        long bytes = made() - before;
        Due.is("a keeper of " + bytes + " bytes is small", bytes < 400000 ? 1 : 0, 1);
    }

    private static void makesNothing(String name, ClockKeeper k, Act act) {
        answers += act.on(k, 0);
        long before = made();
        for (int i = 0; i < TIMES && k.count(0) < 90000; i++) {
            answers += act.on(k, i);
        }
        long bytes = made() - before;
        Due.is(name + " makes " + bytes + " bytes", bytes < 10000 ? 1 : 0, 1);
    }
}
