/** Promise 7: verdict, line and time of a test in the last RUN. */
public final class Promise07VerdictTest {
    public static void main(String[] args) {
        refusesTheFirstThatFits();
        tellsAllTests();
        tellsTheLastRun();
        Due.close();
    }

    private static void refusesTheFirstThatFits() {
        TestText x = Due.of("test t", "test u");
        Due.is("verdict(0, 0)", x.verdict(0, 0), -1);
        Due.is("verdict(3, 0)", x.verdict(3, 0), -1);
        Due.is("verdict(3, 3)", x.verdict(3, 3), -1);
        Due.is("verdict(-1, -1)", x.verdict(-1, -1), -1);
        Due.is("verdict(MAX, 0)", x.verdict(Integer.MAX_VALUE, 0), -1);
        Due.is("verdict(MIN, 0)", x.verdict(Integer.MIN_VALUE, 0), -1);
        Due.is("verdict(1, 3)", x.verdict(1, 3), -2);
        Due.is("verdict(1, -1)", x.verdict(1, -1), -2);
        Due.is("verdict(1, 0)", x.verdict(1, 0), -3);
        Due.is("verdict(2, 2)", x.verdict(2, 2), -3);
        x.run();
        Due.left(x, 1, 0, 0, 0);
        Due.left(x, 2, 0, 0, 0);
        Due.is("verdict(3, 0)", x.verdict(3, 0), -1);
        Due.is("verdict(1, 3)", x.verdict(1, 3), -2);
        Due.is("verdict(1, MIN)", x.verdict(1, Integer.MIN_VALUE), -2);
    }

    private static void tellsAllTests() {
        TestText x = Due.of("name a", "test t", "set a 1", "set a 2", "", "test u", "set a 1", "check a ! 1",
                "set a 3", "test v", "check a = 1", "test w", "set a 1", "wait a = 2 40", "test x", "set a 1",
                "always", "set a 2", "set a 3", "end");
        Due.is("run()", x.run(), 2);
        Due.left(x, 1, 0, 0, 2);
        Due.left(x, 2, 1, 8, 1);
        Due.left(x, 3, 2, 11, 0);
        Due.left(x, 4, 1, 14, 41);
        Due.left(x, 5, 0, 0, 4);
    }

    private static void tellsTheLastRun() {
        TestText x = Due.of("name a", "test t", "check a = 1", "check a = 1");
        Due.is("run()", x.run(), 2);
        Due.left(x, 1, 2, 3, 0);
        x.answer(1, 2, 1);
        x.answer(1, 1, 0);
        Due.left(x, 1, 2, 3, 0);
        Due.is("run()", x.run(), 1);
        Due.left(x, 1, 1, 4, 1);
        x.answer(1, 1, 1);
        Due.is("run()", x.run(), 0);
        Due.left(x, 1, 0, 0, 2);
    }
}
