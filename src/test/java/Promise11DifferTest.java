/** Promise 11: where two RUNS differ. */
public final class Promise11DifferTest {
    public static void main(String[] args) {
        refuses();
        differsInTime();
        differsInLine();
        differsInWhatWasDrawn();
        differsInLength();
        looksThroughAllTests();
        looksNoFurtherThanTheRuns();
        Due.close();
    }

    private static void both(TestText x, int run, int other, int due) {
        Due.is("differ(" + run + ", " + other + ")", x.differ(run, other), due);
        Due.is("differ(" + other + ", " + run + ")", x.differ(other, run), due);
    }

    private static void refuses() {
        TestText x = Due.of("test t");
        both(x, 1, 1, -2);
        x.run();
        both(x, 1, 1, -1);
        both(x, 1, 2, -2);
        both(x, 1, 0, -2);
        both(x, 1, -1, -2);
        both(x, 1, Integer.MAX_VALUE, -2);
        both(x, 1, Integer.MIN_VALUE, -2);
        both(x, 9, 9, -2);
        x.run();
        both(x, 1, 2, -1);
        for (int i = 3; i <= 8; i++) {
            x.run();
        }
        both(x, 1, 8, -1);
        both(x, 1, 9, -2);
        Due.type(x, "test t");
        Due.reads(x);
        both(x, 1, 1, -2);
    }

    private static void differsInTime() {
        TestText x = Due.of("name a", "name b", "test t", "set b 1", "wait a = 1 10", "set b 1");
        x.answer(1, 1, 5);
        x.run();
        x.run();
        both(x, 1, 2, -1);
        x.answer(1, 1, 4);
        x.run();
        both(x, 1, 3, 1);
        both(x, 2, 3, 1);
    }

    /** Behind the check that is left stands another line, at the same time as in the other run. */
    private static void differsInLine() {
        TestText x = Due.of("name a", "name b", "test t", "set a 1", "check b = 1", "always", "set a 2", "end");
        x.answer(2, 1, 0);
        x.run();
        x.answer(2, 2, 1);
        x.run();
        both(x, 1, 2, 2);
        TestText y = Due.of("name a", "test t", "wait a = 1 0", "fault 1 off", "test u", "fault 1 off");
        y.answer(1, 1, 0);
        y.run();
        y.answer(1, 2, 0);
        y.run();
        both(y, 1, 2, 1);
    }

    private static void differsInWhatWasDrawn() {
        TestText x = Due.of("name a", "test t", "set a 1", "draw a 0 999999", "set a 1");
        x.run();
        x.seed(99999999);
        x.run();
        x.seed(1);
        x.run();
        both(x, 1, 2, 1);
        both(x, 1, 3, -1);
    }

    private static void differsInLength() {
        TestText x = Due.of("name a", "test t", "set a 1", "wait a ! 1 2", "set a 2");
        x.answer(1, 1, 1);
        x.run();
        x.answer(1, 2, 3);
        x.run();
        both(x, 1, 2, 2);
        Due.is("cover(2, 0)", x.cover(2, 0), 5);
    }

    /** What RUNS of a text read before did behind the last step does not count. */
    private static void looksNoFurtherThanTheRuns() {
        String[] text = {"name a", "test t", "draw a 0 9999", "wait a ! 0 0", "draw a 0 9999"};
        TestText x = Due.of(text);
        x.answer(1, 5, 1);
        x.run();
        x.seed(12345);
        x.run();
        both(x, 1, 2, 0);
        Due.type(x, Due.lines("name a", "test t", "set a 1", "wait a ! 0 0"));
        Due.reads(x);
        x.run();
        x.run();
        both(x, 1, 2, -1);
        Due.type(x, Due.lines("name a", "test t", "set a 1", "check a = 1", "set a 1"));
        Due.reads(x);
        x.run();
        x.run();
        both(x, 1, 2, -1);
        Due.type(x, Due.lines("name a", "test t", "set a 1", "check a = 1", "set a 1"));
        Due.reads(x);
        x.run();
        x.answer(1, 2, 1);
        x.run();
        both(x, 1, 2, 2);
    }

    private static void looksThroughAllTests() {
        TestText x = Due.of("name a", "test t", "set a 1", "set a 2", "test u", "set a 1", "test v", "draw a 0 9999",
                "check a < 9999");
        x.seed(77);
        x.run();
        x.seed(4000000000L);
        x.run();
        both(x, 1, 2, 3);
    }
}
