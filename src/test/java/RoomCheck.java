import java.lang.management.ManagementFactory;

/** What a whole run makes stays small: all of its calls live in one room that is never swept. */
public final class RoomCheck {
    private static final long BYTES_A_DESK = 40_000;
    private static final long BYTES_A_RUN = 400_000;

    private static int law(SubgraphDesk x, String text) {
        x.end(0);
        for (int from = 0; from < text.length(); from += 20) {
            int[] five = new int[5];
            for (int k = 0; k < 20; k++) {
                int sign = from + k < text.length() ? text.charAt(from + k) : 0;
                five[k / 4] = five[k / 4] << 8 | sign;
            }
            x.feed(five[0], five[1], five[2], five[3], five[4]);
        }
        x.end(text.length());
        return x.law();
    }

    private static long now() {
        com.sun.management.ThreadMXBean bean = (com.sun.management.ThreadMXBean) ManagementFactory.getThreadMXBean();
        return bean.getThreadAllocatedBytes(Thread.currentThread().getId());
    }

    private static void dearRun() {
        SubgraphDesk x = new SubgraphDesk();
        for (int i = 0; i < 12; i++) {
            x.node(1);
        }
        for (int i = 0; i < 5; i++) {
            x.vertex(6);
        }
        x.image(0);
        for (int i = 0; i < 20; i++) {
            law(x, "costs node + vertex + colour + degree if not (links = 2 or mood > 3); bars if node = 11 and vertex = 0");
            x.force(x.count(5) - 1);
            x.once();
            x.onceWay(400, 1);
            x.best(-1);
            x.steps(2);
            x.sets(60);
            x.look(0);
            x.compare(0);
            x.few(20, 99);
            x.days(i, 60);
            x.kind(-1, 12);
            x.image(1);
            x.back(i % 5 == 4 ? 0 : 1);
        }
    }

    public static void main(String[] args) {
        dearRun();
        long before = now();
        SubgraphDesk x = new SubgraphDesk();
        long desk = now() - before;
        before = now();
        dearRun();
        long run = now() - before;
        System.out.println("a desk takes " + desk + " bytes, a dear run " + run + ", ways " + x.ways());
        if (desk > BYTES_A_DESK || run > BYTES_A_RUN) {
            System.out.println("that is too much");
            System.exit(1);
        }
    }
}
