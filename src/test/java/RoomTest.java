import java.lang.management.ManagementFactory;

/** Nothing that a call makes is ever given back, so the calls of a full run make next to nothing. */
public final class RoomTest {
    private static final long BYTES_FOR_THE_WEB = 100000;
    private static final long BYTES_FOR_QUESTIONS = 2000;

    public static void main(String[] args) {
        com.sun.management.ThreadMXBean threads =
            (com.sun.management.ThreadMXBean) ManagementFactory.getThreadMXBean();
        long thread = Thread.currentThread().getId();
        // Once without counting, so that no class is loaded while the bytes are counted.
        askAll(fullWeb());
        long start = threads.getThreadAllocatedBytes(thread);
        PoliteGatherer x = fullWeb();
        long built = threads.getThreadAllocatedBytes(thread);
        askAll(x);
        long asked = threads.getThreadAllocatedBytes(thread);
        Checks checks = new Checks();
        checks.due("the web took " + (built - start) + " bytes: enough", built - start <= BYTES_FOR_THE_WEB, true);
        checks.due("the questions took " + (asked - built) + " bytes: enough",
            asked - built <= BYTES_FOR_QUESTIONS, true);
        checks.end();
    }

    private static PoliteGatherer fullWeb() {
        PoliteGatherer x = new PoliteGatherer();
        for (int i = 0; i < 32; i++) {
            x.page(i % 6, i + 1);
        }
        for (int i = 0; i < 32; i++) {
            x.write(i, i % 26);
            x.write(i, i / 26);
            for (int j = 1; j <= 5; j++) {
                x.link(i, (5 * i + j) % 32);
            }
        }
        x.first(0);
        return x;
    }

    private static void askAll(PoliteGatherer x) {
        for (int i = 0; i < 16; i++) {
            x.begin(6, 4, 9, 3);
            for (int j = 0; j < 4; j++) {
                x.work(10);
                x.crash();
                x.found(j);
                x.allowed(j);
                x.document(31 - j);
                x.rank(j, 12);
                x.best(j, 0, j);
            }
            x.stop();
        }
    }
}
