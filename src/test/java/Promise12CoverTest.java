/** Promise 12: what was covered. */
public final class Promise12CoverTest {
    public static void main(String[] args) {
        refuses();
        countsStepsBegun();
        countsStepsBegunInAnyRun();
        countsTestsNaming();
        countsStepsOfAllRuns();
        Due.close();
    }

    private static void refuses() {
        TestText x = Due.of("name a", "name b", "test t");
        for (int of : new int[] {0, -1, 2, 3, Integer.MAX_VALUE, Integer.MIN_VALUE}) {
            Due.is("cover(0, " + of + ")", x.cover(0, of), -1);
        }
        for (int of : new int[] {0, -1, 3, 32, 33, Integer.MAX_VALUE, Integer.MIN_VALUE}) {
            Due.is("cover(1, " + of + ")", x.cover(1, of), -1);
        }
        for (int kind : new int[] {-1, 3, Integer.MAX_VALUE, Integer.MIN_VALUE}) {
            Due.is("cover(" + kind + ", 1)", x.cover(kind, 1), -2);
            Due.is("cover(" + kind + ", 9)", x.cover(kind, 9), -2);
        }
        Due.is("cover(2, 9)", x.cover(2, 9), 0);
        Due.is("cover(2, MIN)", x.cover(2, Integer.MIN_VALUE), 0);
    }

    private static void countsStepsBegun() {
        TestText x = Due.of("name a", "test t", "set a 1", "loop 3", "set a 2", "end", "cases a 1 2", "fault 1 on",
                "end", "check a = 3", "always", "fault 1 off", "end", "test u", "set a 1");
        Due.is("cover(0, 1)", x.cover(0, 1), 0);
        x.run();
        Due.is("cover(0, 1)", x.cover(0, 1), 7);
        Due.is("cover(0, 2)", x.cover(0, 2), 1);
        x.run();
        Due.is("cover(0, 1)", x.cover(0, 1), 7);
        TestText all = Due.of("name a", "test t", "always", "set a 1", "end", "draw a 1 2", "wait a > 0 0");
        all.run();
        Due.is("cover(0, 1)", all.cover(0, 1), 4);
    }

    private static void countsStepsBegunInAnyRun() {
        TestText x = Due.of("name a", "test t", "check a = 1", "check a = 2", "check a = 3");
        x.run();
        Due.is("cover(0, 1)", x.cover(0, 1), 1);
        x.answer(1, 1, 0);
        x.answer(1, 2, 1);
        x.run();
        Due.is("cover(0, 1)", x.cover(0, 1), 3);
        x.answer(1, 5, 0);
        x.run();
        Due.is("cover(0, 1)", x.cover(0, 1), 3);
    }

    private static void countsTestsNaming() {
        TestText x = Due.of("name a", "name b", "name c", "name d", "name e", "name f", "test t", "set a 1",
                "set a 2", "draw b 1 2", "test u", "wait a = 1 1", "check c = 1", "test v", "cases d 1", "set a 1",
                "end", "always", "set e 1", "end");
        int[] due = {3, 1, 1, 1, 1, 0};
        for (int of = 1; of <= 6; of++) {
            Due.is("cover(1, " + of + ")", x.cover(1, of), due[of - 1]);
        }
        x.run();
        Due.is("cover(1, 1)", x.cover(1, 1), 3);
        TestText last = Due.of(Due.names(20), "test t", "set vt 1", "test u", "set va 1", "set vt 1");
        Due.is("cover(1, 20)", last.cover(1, 20), 2);
        Due.is("cover(1, 19)", last.cover(1, 19), 0);
        Due.is("cover(1, 1)", last.cover(1, 1), 1);
        Due.is("cover(1, 21)", last.cover(1, 21), -1);
    }

    private static void countsStepsOfAllRuns() {
        TestText x = Due.of("name a", "test t", "loop 2", "set a 1", "end", "test u", "check a = 1", "set a 1");
        x.run();
        Due.is("cover(2, 0)", x.cover(2, 0), 4);
        x.answer(1, 1, 0);
        x.run();
        Due.is("cover(2, 0)", x.cover(2, 0), 9);
        for (int i = 0; i < 7; i++) {
            x.run();
        }
        Due.is("cover(2, 0)", x.cover(2, 0), 4 + 7 * 5);
    }
}
