import java.lang.management.ManagementFactory;

/** What 512 calls make stays far under the room of 7.3 million fields and elements (of four bytes or more). */
public final class RoomTest {
    private static final Due DUE = new Due("RoomTest");
    private static final long ROOM_BYTES = 7300000L * 4;
    private static final com.sun.management.ThreadMXBean THREADS =
            (com.sun.management.ThreadMXBean) ManagementFactory.getThreadMXBean();

    public static void main(String[] args) {
        ordersAlone();
        daysAheadAndImages();
        DUE.finish();
    }

    private static long made() {
        return THREADS.getThreadAllocatedBytes(Thread.currentThread().getId());
    }

    /** The dearest text for its bytes: each token of it is a step. */
    private static void ordersAlone() {
        DepotMarch march = new DepotMarch();
        march.party(1, 5);
        String text = "a=" + "-b+".repeat(165) + "1;";
        int[] words = new int[text.length() / 4 + 5];
        for (int i = 0; i < words.length; i++) {
            words[i] = Due.word(text, 4 * i);
        }
        long before = made();
        for (int call = 0; call < 512; call++) {
            march.end(0);
            for (int i = 0; i < text.length() / 4; i += 5) {
                march.feed(words[i], words[i + 1], words[i + 2], words[i + 3], words[i + 4]);
            }
            DUE.is("orders", march.orders(0), 1);
        }
        DUE.is("512 orders", made() - before < ROOM_BYTES / 4, true);
    }

    private static void daysAheadAndImages() {
        long before = made();
        DepotMarch march = new DepotMarch();
        for (int i = 0; i < 6; i++) {
            march.party(1, 200);
            march.land(200);
            Due.orders(march, i, "take 200;while 1{lay 1;rest;}");
        }
        march.days(40);
        march.image(0);
        for (int i = 0; i < 160; i++) {
            march.again(0);
            march.days(50);
            march.image(1 + i % 2);
            march.ahead(50, i % 3);
        }
        DUE.is("rations", march.count(5) + march.count(6) + march.count(7), 1200);
        DUE.is("days, ahead and images", made() - before < ROOM_BYTES / 4, true);
    }
}
