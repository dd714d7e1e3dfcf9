/** The boundary cases of promise 12, sentence by sentence. */
public final class Edges12CoverTest {
    public static void main(String[] args) {
        stepsBegun();
        testsThatName();
        stepsOfAllRuns();
        noSuchTestOrValue();
        noSuchKind();
        Due.close();
    }

    private static void stepsBegun() {
        Due.sentence(12, "kind 0: how many of test of's steps were begun in any RUN");
        Calls.of("test t").cover(0, 1, 0).run(0).cover(0, 1, 0);
        // Each step once, however often it is done; the one by which the test is left, too.
        Calls x = Calls.of("name a", "test t", "loop 20", "fault 1 on", "end", "cases a 1 2 3", "end", "check a = 4",
                "set a 4", "always", "set a 5", "end", "test u", "set a 1", "wait a = 2 0", "set a 3");
        x.cover(0, 1, 0).cover(0, 2, 0).run(1).cover(0, 1, 5).cover(0, 2, 2);
        x.run(1).cover(0, 1, 5).cover(0, 2, 2);
        // In any RUN: what one of them does not begin another one does.
        Calls y = Calls.of("name a", "name b", "test t", "check a = 1", "check b = 1", "set a 1", "always", "set b 1",
                "end");
        y.run(2).cover(0, 1, 2).answer(1, 1, 0, 1).run(2).cover(0, 1, 3).answer(2, 1, 0, 2).run(0).cover(0, 1, 5);
        y.answer(1, 2, 0, 3).run(1).cover(0, 1, 5).signs("test t\nfault 1 on").read(1).cover(0, 1, 0);
        // All 100 of a test, and of the next one the first alone.
        String full = "name a\ntest t\n" + Due.many(100, "set a 1") + "test u\ncheck a = 1\nset a 1";
        Calls.having(full).run(2).cover(0, 1, 100).cover(0, 2, 1).cover(2, 0, 101);
        // A step that could not begin any more is not begun.
        String endless = Due.many(8, "loop 20") + Due.many(8, "end");
        Calls.having("name a\ntest t\n" + endless + "set a 1\ntest u\nset a 1").run(2).cover(0, 1, 8).cover(0, 2, 0);
    }

    private static void testsThatName() {
        Due.sentence(12, "1 how many tests have a step that names value of");
        for (String line : new String[] {"set b 1", "draw b 1 2", "wait b = 1 0", "check b = 1", "cases b 1\nend",
            "loop 1\nset b 1\nend", "always\nset b 1\nend"}) {
            Calls.having("name a\nname b\nname c\ntest t\n" + line).cover(1, 1, 0).cover(1, 2, 1).cover(1, 3, 0);
        }
        Calls.of("name a", "test t", "fault 1 on", "loop 1", "end", "always", "end").cover(1, 1, 0);
        Calls.of("name a").cover(1, 1, 0);
        // A test counts once, whether or not the step is ever done; all 12 of them.
        Calls.of("name a", "test t", "check a = 1", "set a 1", "set a 1").cover(1, 1, 1).run(2).cover(1, 1, 1);
        Calls.of("name a", "name b", "test t", "check a = 1", "set b 1").run(2).cover(1, 2, 1);
        StringBuilder text = new StringBuilder(Due.names(20));
        for (char c = 'a'; c < 'a' + 12; c++) {
            text.append("test t").append(c).append("\nset vt 1\nset va 1\nset v").append(c).append(" 1\n");
        }
        Calls.having(text.toString()).cover(1, 20, 12).cover(1, 1, 12).cover(1, 2, 1).cover(1, 12, 1).cover(1, 13, 0)
                .cover(1, 19, 0);
    }

    private static void stepsOfAllRuns() {
        Due.sentence(12, "2 how many steps all RUNS did");
        new Calls().cover(2, 0, 0);
        Calls x = Calls.of("name a", "test t", "loop 2", "set a 1", "end", "test u", "check a = 1", "set a 1");
        x.cover(2, 0, 0).run(2).cover(2, 0, 4).answer(1, 1, 0, 1).run(0).cover(2, 0, 9);
        for (int run = 3; run <= 8; run++) {
            x.run(0).cover(2, 0, 9 + 5 * (run - 2));
        }
        x.run(-4).cover(2, 0, 39).signs("test t").read(0).cover(2, 0, 0).run(0).cover(2, 0, 0);
        // It does not look at of.
        Calls y = Calls.of("test t", "fault 1 on").run(0);
        for (int of : new int[] {0, 1, 2, -1, Integer.MIN_VALUE, Integer.MAX_VALUE}) {
            y.cover(2, of, 1);
        }
    }

    private static void noSuchTestOrValue() {
        Due.sentence(12, "-1 there is no such test or value");
        new Calls().cover(0, 1, -1).cover(1, 1, -1).cover(0, 0, -1).cover(1, 0, -1);
        // Two tests, three values: each kind has bounds of its own.
        Calls x = Calls.of("name a", "name b", "name c", "test t", "test u", "set c 1");
        x.cover(0, 1, 0).cover(0, 2, 0).cover(0, 3, -1).cover(1, 3, 1).cover(1, 4, -1);
        for (int of : new int[] {0, -1, 32, 33, Integer.MIN_VALUE, Integer.MAX_VALUE}) {
            x.cover(0, of, -1).cover(1, of, -1);
        }
        Calls.of("name a", "test t", "test u").cover(0, 2, 0).cover(1, 2, -1).run(0).cover(0, 2, 0).cover(1, 2, -1);
    }

    private static void noSuchKind() {
        Due.sentence(12, "-2 no such kind");
        new Calls().cover(3, 1, -2).cover(-1, 1, -2);
        Calls x = Calls.of("name a", "test t", "set a 1").run(0).cover(0, 1, 1).cover(1, 1, 1).cover(2, 1, 1);
        for (int kind : new int[] {-1, 3, Integer.MIN_VALUE, Integer.MAX_VALUE}) {
            x.cover(kind, 1, -2);
        }
    }
}
