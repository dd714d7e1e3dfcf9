import java.lang.management.ManagementFactory;
import java.util.ArrayList;
import java.util.List;

/**
 * What the dearest runs of 512 calls make stays far under the room of 7.3 million fields and elements. Counted are
 * bytes: each element has at least one, so that as many bytes hold at most as many elements.
 */
public final class RoomTest {
    private static final com.sun.management.ThreadMXBean THREADS =
            (com.sun.management.ThreadMXBean) ManagementFactory.getThreadMXBean();

    public static void main(String[] args) {
        textsReadAgainAndAgain();
        readsAgainAndAgain();
        newObjects();
        runsOfTwoThousandSteps();
        Due.close();
    }

    private static long made() {
        return THREADS.getThreadAllocatedBytes(Thread.currentThread().getId());
    }

    private static void under(String what, long bytes, long most) {
        Due.is(what + " made " + bytes + " bytes, which is at most " + most, bytes <= most ? 1 : 0, 1);
    }

    private static void signs(TestText x, String text) {
        for (int i = 0; i < text.length(); i += 4) {
            x.sign(text.charAt(i) << 24 | text.charAt(i + 1) << 16 | text.charAt(i + 2) << 8 | text.charAt(i + 3));
        }
    }

    private static int read(TestText x) {
        try {
            return x.read();
        } catch (IllegalStateException e) {
            return Due.THROWS;
        }
    }

    private static void textsReadAgainAndAgain() {
        long before = made();
        TestText x = new TestText();
        for (int i = 0; i < 42; i++) {
            signs(x, "test  aa");
            read(x);
            for (int run = 0; run < 9; run++) {
                x.run();
            }
        }
        under("reading and running", made() - before, 1000000);
    }

    private static void readsAgainAndAgain() {
        long before = made();
        TestText x = new TestText();
        for (int i = 0; i < 511; i++) {
            read(x);
        }
        under("reading", made() - before, 1000000);
    }

    private static void newObjects() {
        List<TestText> all = new ArrayList<>();
        long before = made();
        for (int i = 0; i < 512; i++) {
            all.add(new TestText());
        }
        under("new objects", made() - before, 5000000);
    }

    private static void runsOfTwoThousandSteps() {
        long before = made();
        TestText x = new TestText();
        for (int i = 0; i < 15; i++) {
            signs(x, "test  a\nloop 20\nloop 20\nloop 20\nfault 1 on \nend\nend\nend\n");
            read(x);
            for (int run = 0; run < 9; run++) {
                x.run();
                x.differ(1, run);
                x.least(run);
            }
        }
        Due.is("cover(2, 0)", x.cover(2, 0), 8 * 2000);
        under("long runs", made() - before, 1000000);
    }
}
