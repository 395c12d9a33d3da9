import com.sun.management.ThreadMXBean;
import java.lang.management.ManagementFactory;

/**
 * Runs of 512 calls stay within the room that LANGUAGE.md leaves, 7.3 million fields and elements: each takes at
 * least one byte, so the bytes that a run makes are counted, and must be fewer.
 */
public final class RoomTest {
    private static final long ROOM = 7_300_000L;
    private static final int CALLS = 512;
    private static final ThreadMXBean THREADS = (ThreadMXBean) ManagementFactory.getThreadMXBean();

    private int calls;
    private int answers;
    private CellarPushers cellar;

    private RoomTest() {
    }

    private interface Use {
        void of(RoomTest test);
    }

    public static void main(String[] args) {
        boolean fits = fits("every call, again and again", RoomTest::everyCall);
        fits &= fits("searches of the largest cellar", RoomTest::largestSearches);
        fits &= fits("searches of cellars which grow", RoomTest::growingSearches);
        fits &= fits("long plans onto the tape", RoomTest::longPlans);
        System.out.println("RoomTest: " + (fits ? "4 passed, 0 failed" : "failed"));
        if (!fits) {
            System.exit(1);
        }
    }

    private static boolean fits(String what, Use use) {
        use.of(new RoomTest());
        RoomTest test = new RoomTest();
        long before = THREADS.getThreadAllocatedBytes(Thread.currentThread().getId());
        use.of(test);
        long bytes = THREADS.getThreadAllocatedBytes(Thread.currentThread().getId()) - before;
        if (test.calls > CALLS || test.answers == 0) {
            System.out.println(what + ": no run of " + CALLS + " calls, but of " + test.calls);
            return false;
        }
        if (bytes >= ROOM) {
            System.out.println(what + ": " + bytes + " bytes, the room is for " + ROOM);
            return false;
        }
        return true;
    }

    private void counted(int answer) {
        calls++;
        answers += answer;
    }

    /** Lays FLOOR from the first field on, line by line, with a wanted mark for each barrel. */
    private void lay(int from, int to) {
        for (int i = from; i < to; i++) {
            boolean isMark = i == 8 || i == 14 || i == 16;
            counted(cellar.field(i % 6, i / 6, isMark ? 2 : 1, 0));
            if (isMark) {
                counted(cellar.want(i % 6, i / 6, true));
            }
        }
    }

    private void furnish() {
        counted(cellar.barrel(1, 1, true));
        counted(cellar.barrel(3, 1, true));
        counted(cellar.barrel(1, 2, true));
        counted(cellar.man(0, 0));
    }

    private void largestSearches() {
        cellar = new CellarPushers(6, 5);
        lay(0, 30);
        furnish();
        while (calls < CALLS) {
            counted(cellar.fewest());
        }
    }

    private void growingSearches() {
        cellar = new CellarPushers(6, 5);
        lay(0, 18);
        furnish();
        for (int fields = 18; fields <= 30; fields++) {
            counted(cellar.fewest());
            lay(fields, Math.min(30, fields + 1));
        }
        while (calls < CALLS) {
            counted(cellar.fewest());
        }
    }

    private void longPlans() {
        cellar = LongPlan.cellar();
        counted(cellar.fewest());
        while (calls < CALLS / 2) {
            counted(cellar.copy());
            counted(cellar.check());
            counted(cellar.follow());
            counted(cellar.undo());
        }
    }

    private void everyCall() {
        cellar = new CellarPushers(8, 8);
        for (int i = 0; i < 64; i++) {
            counted(cellar.field(i % 8, i / 8, i % 5 == 0 ? 2 : 1, 0));
        }
        for (int i = 0; i < 12; i++) {
            counted(cellar.want(i * 5 % 8, i * 5 / 8, true));
            counted(cellar.barrel(1 + i % 6, 1 + i / 6 * 3, true));
        }
        counted(cellar.man(0, 7));
        while (calls < CALLS - 40) {
            moves();
            questions();
            tape();
        }
    }

    private void moves() {
        counted(cellar.line(6, calls % 2 == 0));
        counted(cellar.walk(0, 7));
        counted(cellar.step(0));
        counted(cellar.push(1, 4, 1));
        counted(cellar.can(2, 4, 0));
        counted(cellar.undo());
        counted(cellar.redo());
    }

    private void questions() {
        counted(cellar.far(7, 0));
        counted(cellar.kind(1, 1));
        counted(cellar.on(1, 1));
        counted(cellar.isDone() ? 1 : 0);
        counted(cellar.isReady() ? 1 : 0);
        counted(cellar.dead(0, 1));
        counted(cellar.held(1, 1));
        counted(cellar.spoilt());
        counted(cellar.why());
        counted(cellar.low());
        counted(cellar.price(1, 1, 5, 5));
        counted(cellar.count(5));
        counted(cellar.fewest());
    }

    private void tape() {
        counted(cellar.steps());
        counted(cellar.plan(0));
        counted(cellar.follow());
        counted(cellar.tell(1));
        counted(cellar.forge(0, 2));
        counted(cellar.check());
        counted(cellar.copy());
        counted(cellar.hush());
    }
}
