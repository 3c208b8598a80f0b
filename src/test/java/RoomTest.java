import java.lang.management.ManagementFactory;

/** All calls of a run share one room: the dear calls must make nothing, and an object must be small. */
public final class RoomTest {
    private static final com.sun.management.ThreadMXBean BEAN =
        (com.sun.management.ThreadMXBean) ManagementFactory.getThreadMXBean();

    private static int wrong = 0;

    private static long made() {
        return BEAN.getThreadAllocatedBytes(Thread.currentThread().getId());
    }

    private static void within(String what, long bytes, long most) {
        if (bytes > most) {
            wrong++;
            System.out.println(what + " made " + bytes + " bytes, at most " + most + " are due");
        }
    }

    private static FallingSlates market() {
        FallingSlates x = new FallingSlates();
        for (int i = 0; i < 6; i++) x.seller(i, 7 * i, 1003 + 500 * i);
        for (int i = 0; i < 8; i++) x.sort(i + 1, 900 - 90 * i, i);
        x.feed(0x70 | '>' << 8 | 'f' << 16, 3);
        x.text(1);
        return x;
    }

    private static void dearCalls(FallingSlates x) {
        x.begin(0, 9);
        x.down(1, 9, 3, -1);
        x.gains(60);
        x.tenth(60, 50);
        x.right(2, 60);
        x.lost(60);
        x.then(60, 3, 8);
        x.waits(60, 2);
        x.earned(60);
        x.check(60);
        x.voice(5, 3, 9);
        x.image();
        x.restore();
        x.year(1);
        x.days(1);
        x.sheet(0, 16, 40);
        x.sorts(0);
    }

    public static void main(String[] args) {
        FallingSlates x = market();
        dearCalls(x);
        long before = made();
        for (int i = 0; i < 20; i++) dearCalls(x);
        within("20 rounds of dear calls", made() - before, 4096);
        new FallingSlates();
        before = made();
        FallingSlates y = new FallingSlates();
        within("a new object", made() - before, 16384);
        before = made();
        for (int i = 0; i < 100; i++) {
            y.feed(0x2b312b312b312b31L, 7);
            y.text(0);
        }
        within("100 texts", made() - before, 100 * 1024);
        System.out.println(wrong == 0 ? "the room is kept small" : wrong + " calls make too much");
        if (wrong != 0) System.exit(1);
    }
}
