import java.lang.management.ManagementFactory;

/** What a run of 512 dear calls makes fits into the room in which all calls of a run live, never swept. */
public final class RoomCheck {
    /** The room has some 600,000 objects and arrays, 7.3 million fields and elements in all. */
    private static final long BYTES_IN_THE_ROOM = 600_000L * 16 + 7_300_000L * 4;
    private static final String DEAR_LAW =
        "costs node + vertex + colour + degree if not (links = 2 or mood > 3); bars if node = 11 and vertex = 0";

    private static int calls;

    private static void law(SubgraphDesk x) {
        x.end(0);
        for (int from = 0; from < DEAR_LAW.length(); from += 20) {
            int[] five = TestKit.packed(DEAR_LAW, from);
            x.feed(five[0], five[1], five[2], five[3], five[4]);
            calls++;
        }
        x.end(DEAR_LAW.length());
        x.law();
        x.force(x.count(5) - 1);
        calls += 5;
    }

    private static long made() {
        com.sun.management.ThreadMXBean bean = (com.sun.management.ThreadMXBean) ManagementFactory.getThreadMXBean();
        return bean.getThreadAllocatedBytes(Thread.currentThread().getId());
    }

    private static void dearRun() {
        SubgraphDesk x = new SubgraphDesk();
        for (int i = 0; i < 12; i++) {
            x.node(1);
        }
        for (int i = 0; i < 5; i++) {
            x.vertex(6);
        }
        x.image(0);
        calls = 18;
        for (int i = 0; calls + 29 <= TestKit.CALLS_MOST; i++) {
            law(x);
            x.once();
            x.onceWay(400, 1);
            x.way(90_000, 1);
            x.best(-1);
            x.steps(1);
            x.steps(2);
            x.within(9_999);
            x.sets(60);
            x.look(0);
            x.compare(0);
            x.few(20, 99);
            x.days(i, 60);
            x.kind(-1, 12);
            x.image(1);
            x.back(i % 5 == 4 ? 0 : 1);
            calls += 15;
        }
    }

    public static void main(String[] args) {
        dearRun();
        long before = made();
        dearRun();
        long run = made() - before;
        System.out.println("a run of " + calls + " dear calls makes " + run + " bytes");
        if (run > BYTES_IN_THE_ROOM) {
            System.out.println("that is too much");
            System.exit(1);
        }
    }
}
