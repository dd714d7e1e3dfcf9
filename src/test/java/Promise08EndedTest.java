/** Promise 8: how often a test's always was begun in all RUNS. */
public final class Promise08EndedTest {
    public static void main(String[] args) {
        TestText x = Due.of("name a", "test t", "always", "set a 1", "end", "test u", "check a = 1", "always", "end",
                "test v", "set a 1", "test w", "always", "check a = 1", "end");
        Due.is("ended(1)", x.ended(1), 0);
        for (int run = 1; run <= 8; run++) {
            Due.is("run()", x.run(), 2);
            Due.is("ended(1)", x.ended(1), run);
            Due.is("ended(2)", x.ended(2), run);
            Due.is("ended(3)", x.ended(3), 0);
            Due.is("ended(4)", x.ended(4), run);
        }
        Due.is("run()", x.run(), -4);
        Due.is("ended(1)", x.ended(1), 8);
        Due.is("ended(0)", x.ended(0), -1);
        Due.is("ended(5)", x.ended(5), -1);
        Due.is("ended(-1)", x.ended(-1), -1);
        Due.is("ended(MAX)", x.ended(Integer.MAX_VALUE), -1);
        Due.is("ended(MIN)", x.ended(Integer.MIN_VALUE), -1);
        Due.type(x, "test t\nalways\nend");
        Due.reads(x);
        Due.is("ended(1)", x.ended(1), 0);
        Due.is("ended(2)", x.ended(2), -1);
        Due.close();
    }
}
