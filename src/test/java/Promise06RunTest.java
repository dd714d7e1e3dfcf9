/** Promise 6: a RUN, its steps, and the greatest verdict. */
public final class Promise06RunTest {
    public static void main(String[] args) {
        refuses();
        answersTheGreatestVerdict();
        beginsEachTestAnew();
        compares();
        waits();
        loops();
        doesCases();
        leavesAllThatIsAround();
        doesAlwaysHoweverItIsLeft();
        doesAlwaysWhoseStepsLeave();
        doesTwoThousandSteps();
        leavesTestsBehind();
        stopsInAlways();
        Due.close();
    }

    private static void refuses() {
        TestText x = new TestText();
        Due.is("run()", x.run(), -3);
        Due.type(x, "name a");
        Due.reads(x);
        Due.is("run()", x.run(), -3);
        x = Due.of("test t");
        for (int i = 0; i < 8; i++) {
            Due.is("run()", x.run(), 0);
        }
        Due.is("run()", x.run(), -4);
        Due.is("run()", x.run(), -4);
        Due.is("differ(8, 8)", x.differ(8, 8), -1);
        Due.is("differ(9, 9)", x.differ(9, 9), -2);
    }

    private static void answersTheGreatestVerdict() {
        Due.is("run()", Due.of("name a", "test t", "set a 1").run(), 0);
        Due.is("run()", Due.of("name a", "test t", "set a 1", "check a = 2", "test u").run(), 1);
        Due.is("run()", Due.of("name a", "test t", "check a = 2", "test u", "wait a = 1 1").run(), 2);
        Due.is("run()", Due.of("name a", "test t", "wait a = 2 1", "test u", "check a = 1", "test v").run(), 2);
    }

    private static void beginsEachTestAnew() {
        TestText x = Due.of("name a", "test t", "set a 1", "test u", "check a = 1", "test v", "set a 2",
                "check a = 2");
        Due.is("run()", x.run(), 2);
        Due.left(x, 1, 0, 0, 1);
        Due.left(x, 2, 2, 5, 0);
        Due.left(x, 3, 0, 0, 2);
        x.answer(1, 1, 0);
        Due.is("run()", x.run(), 0);
        Due.left(x, 2, 0, 0, 1);
    }

    private static void compares() {
        String[] right = {"= 5", "< 6", "> 4", "! 4", "! 6", "> -5", "< 999999", "> -999999"};
        String[] wrong = {"= 4", "= 6", "= -5", "< 5", "< 4", "> 5", "> 6", "! 5"};
        for (String r : right) {
            Due.is("run() of check a " + r, Due.of("name a", "test t", "set a 5", "check a " + r).run(), 0);
            Due.is("run() of wait a " + r, Due.of("name a", "test t", "set a 5", "wait a " + r + " 0").run(), 0);
        }
        for (String w : wrong) {
            Due.is("run() of check a " + w, Due.of("name a", "test t", "set a 5", "check a " + w).run(), 1);
            Due.is("run() of wait a " + w, Due.of("name a", "test t", "set a 5", "wait a " + w + " 9").run(), 1);
        }
    }

    private static void waits() {
        String[] text = {"name a", "name b", "test t", "set b 1", "wait a = 5 10", "set b 2"};
        for (int time = 0; time <= 13; time++) {
            TestText x = Due.of(text);
            x.answer(1, 5, time);
            Due.is("run()", x.run(), time <= 11 ? 0 : 1);
            int done = Math.min(Math.max(time, 1), 11);
            Due.row(x, 1, 5, done, 0);
            Due.left(x, 1, time <= 11 ? 0 : 1, time <= 11 ? 0 : 5, time <= 11 ? done + 2 : 11);
        }
        TestText x = Due.of(text);
        x.answer(1, 5, 3);
        x.answer(1, 6, 2);
        x.answer(1, 5, 0);
        x.answer(1, 6, 1);
        Due.is("run()", x.run(), 0);
        Due.row(x, 1, 5, 3, 0);
        TestText unknown = Due.of("name a", "test t", "wait a ! 5 1000");
        Due.is("run()", unknown.run(), 1);
        Due.left(unknown, 1, 1, 3, 1000);
        TestText set = Due.of("name a", "test t", "set a 4", "wait a = 5 8");
        set.answer(1, 5, 0);
        Due.is("run()", set.run(), 1);
        Due.left(set, 1, 1, 4, 9);
        set.answer(1, 5, 9);
        Due.is("run()", set.run(), 0);
        Due.row(set, 1, 4, 9, 0);
    }

    private static void loops() {
        TestText x = Due.of("name a", "test t", "loop 2", "set a 1", "loop 3", "end", "end", "set a 2");
        Due.is("run()", x.run(), 0);
        Due.row(x, 0, 3, 0, 0);
        Due.row(x, 1, 4, 1, 1);
        Due.row(x, 2, 5, 2, 0);
        Due.row(x, 3, 4, 3, 1);
        Due.row(x, 4, 5, 4, 0);
        Due.row(x, 5, 8, 5, 2);
        Due.row(x, 6, -1, -1, -1);
        TestText deep = Due.of("test t", "loop 2", "loop 2", "loop 2", "loop 2", "loop 2", "loop 2", "loop 2",
                "loop 2", "fault 1 on", "end", "end", "end", "end", "end", "end", "end", "end");
        Due.is("run()", deep.run(), 0);
        Due.is("cover(2, 0)", deep.cover(2, 0), 1 + 2 + 4 + 8 + 16 + 32 + 64 + 128 + 256);
        TestText cases = having("name a\ntest t\n" + Due.many(8, "cases a 1") + "set a 1\n" + Due.many(8, "end"));
        Due.is("run()", cases.run(), 0);
        Due.is("cover(2, 0)", cases.cover(2, 0), 17);
        TestText always = having("name a\ntest t\nalways\n" + Due.many(6, "cases a 1") + "loop 3\nset a 1\n"
                + Due.many(8, "end"));
        Due.is("run()", always.run(), 0);
        Due.is("cover(2, 0)", always.cover(2, 0), 1 + 12 + 1 + 3);
    }

    private static void doesCases() {
        TestText x = Due.of("name a", "name b", "test t", "cases a 3 -4", "cases b 5", "check a < 5", "end", "end");
        Due.is("run()", x.run(), 0);
        Due.row(x, 0, 4, 0, 0);
        Due.row(x, 1, 4, 1, 3);
        Due.row(x, 2, 5, 2, 0);
        Due.row(x, 3, 5, 3, 5);
        Due.row(x, 4, 6, 4, 0);
        Due.row(x, 5, 4, 5, -4);
        Due.row(x, 6, 5, 6, 0);
        Due.row(x, 7, 5, 7, 5);
        Due.row(x, 8, 6, 8, 0);
        Due.left(x, 1, 0, 0, 9);
        // The case is set at time 1: an answer of that time does not count behind it.
        x.answer(1, 7, 1);
        Due.is("run()", x.run(), 0);
        x.answer(1, 7, 2);
        Due.is("run()", x.run(), 1);
        Due.left(x, 1, 1, 6, 4);
    }

    private static void doesAlwaysHoweverItIsLeft() {
        TestText passed = Due.of("name a", "test t", "always", "set a 1", "end", "set a 2");
        Due.is("run()", passed.run(), 0);
        Due.row(passed, 0, 3, 0, 0);
        Due.row(passed, 1, 6, 1, 2);
        Due.row(passed, 2, 4, 2, 1);
        Due.left(passed, 1, 0, 0, 3);
        TestText early = Due.of("name a", "test t", "set a 1", "check a = 2", "always", "set a 3", "check a = 3",
                "end", "set a 4");
        Due.is("run()", early.run(), 1);
        Due.row(early, 0, 3, 0, 1);
        Due.row(early, 1, 4, 1, 0);
        Due.row(early, 2, 6, 1, 3);
        Due.row(early, 3, 7, 2, 0);
        Due.row(early, 4, -1, -1, -1);
        Due.left(early, 1, 1, 4, 1);
        TestText waited = Due.of("name a", "test t", "wait a = 1 7", "always", "loop 2", "set a 1", "end", "end");
        Due.is("run()", waited.run(), 1);
        Due.row(waited, 0, 3, 7, 0);
        Due.row(waited, 1, 5, 7, 0);
        Due.row(waited, 2, 6, 8, 1);
        Due.row(waited, 3, 6, 9, 1);
        Due.left(waited, 1, 1, 3, 7);
        TestText inLoop = Due.of("name a", "test t", "always", "set a 9", "end", "cases a 1 2 3", "loop 2",
                "check a = 1", "end", "end", "set a 7");
        Due.is("run()", inLoop.run(), 1);
        Due.left(inLoop, 1, 1, 8, 8);
        Due.row(inLoop, 8, 8, 8, 0);
        Due.row(inLoop, 9, 4, 8, 9);
        Due.row(inLoop, 10, -1, -1, -1);
    }

    private static void leavesAllThatIsAround() {
        TestText x = Due.of("name a", "test t", "loop 2", "cases a 1 2", "check a = 1", "end", "set a 5", "end",
                "set a 6");
        Due.is("run()", x.run(), 1);
        Due.left(x, 1, 1, 5, 5);
        Due.row(x, 6, -1, -1, -1);
        TestText y = Due.of("name a", "test t", "cases a 1 2", "loop 2", "loop 1", "check a = 2", "end", "end", "end");
        Due.is("run()", y.run(), 1);
        Due.left(y, 1, 1, 6, 4);
        Due.row(y, 5, -1, -1, -1);
    }

    private static void doesAlwaysWhoseStepsLeave() {
        TestText counts = Due.of("name a", "test t", "set a 1", "always", "check a = 2", "set a 3", "end");
        Due.is("run()", counts.run(), 1);
        Due.left(counts, 1, 1, 5, 2);
        Due.row(counts, 3, -1, -1, -1);
        TestText before = Due.of("name a", "name b", "test t", "set a 1", "check a = 2", "always", "check b = 2",
                "set a 3", "end");
        Due.is("run()", before.run(), 1);
        Due.left(before, 1, 1, 5, 1);
        Due.row(before, 2, 7, 1, 0);
        Due.row(before, 3, -1, -1, -1);
        TestText waits = Due.of("name a", "test t", "always", "wait a = 1 5", "set a 3", "end");
        Due.is("run()", waits.run(), 1);
        Due.left(waits, 1, 1, 4, 6);
        TestText inLoop = Due.of("name a", "test t", "always", "cases a 1 2 3", "check a < 2", "end", "set a 9",
                "end");
        Due.is("run()", inLoop.run(), 1);
        Due.left(inLoop, 1, 1, 5, 5);
        Due.row(inLoop, 6, -1, -1, -1);
    }

    /** 1 + 19 * (1 + 20 * 5) + k steps more. */
    private static String steps(int more) {
        return "loop 19\nloop 20\n" + Due.many(5, "fault 1 off") + "end\nend\n" + Due.many(more, "fault 1 off");
    }

    private static TestText having(String text) {
        TestText x = new TestText();
        Due.type(x, text);
        Due.is("read() throws", Due.reads(x) == Due.THROWS ? 1 : 0, 0);
        return x;
    }

    private static void doesTwoThousandSteps() {
        TestText all = having("test t\n" + steps(80));
        Due.is("run()", all.run(), 0);
        Due.is("cover(2, 0)", all.cover(2, 0), 2000);
        Due.left(all, 1, 0, 0, 2000);
        Due.is("cases(1999, 1)", all.cases(1999, 1), 1999);
        Due.is("cases(2000, 0)", all.cases(2000, 0), -1);
        TestText more = having("test t\n" + steps(81));
        Due.is("run()", more.run(), 2);
        Due.is("cover(2, 0)", more.cover(2, 0), 2000);
        Due.left(more, 1, 2, 0, 2000);
        Due.is("run()", more.run(), 2);
        Due.is("cover(2, 0)", more.cover(2, 0), 4000);
        TestText always = having("test t\nalways\nfault 2 on\nend\n" + steps(80));
        Due.is("run()", always.run(), 2);
        Due.left(always, 1, 2, 0, 2000);
        Due.is("ended(1)", always.ended(1), 0);
        Due.is("undone(0)", always.undone(0), 0);
        TestText cases = having("name a\ntest t\n" + steps(79) + "cases a 1\nend\n");
        Due.is("run()", cases.run(), 2);
        Due.left(cases, 1, 2, 0, 2000);
        Due.is("cover(2, 0)", cases.cover(2, 0), 2000);
        TestText endless = having("test t\n" + Due.many(8, "loop 20") + Due.many(8, "end"));
        Due.is("run()", endless.run(), 2);
        Due.left(endless, 1, 2, 0, 2000);
    }

    private static void leavesTestsBehind() {
        TestText x = having("name a\ntest t\n" + steps(80) + "test u\nset a 1\nalways\nset a 2\nend\ntest v\n"
                + "test w\nwait a = 1 9\ntest x\nalways\nend\n");
        Due.is("run()", x.run(), 2);
        Due.left(x, 1, 0, 0, 2000);
        Due.left(x, 2, 2, 0, 0);
        Due.left(x, 3, 0, 0, 0);
        Due.left(x, 4, 2, 0, 0);
        Due.left(x, 5, 2, 0, 0);
        Due.is("ended(2)", x.ended(2), 0);
        Due.is("ended(5)", x.ended(5), 0);
        Due.is("shorter()", x.shorter(), 2000);
        Due.is("cover(0, 2)", x.cover(0, 2), 0);
    }

    private static void stopsInAlways() {
        TestText none = having("test t\n" + steps(78) + "always\nfault 2 on\nfault 3 on\nend\n");
        Due.is("run()", none.run(), 2);
        Due.left(none, 1, 2, 0, 2000);
        Due.is("ended(1)", none.ended(1), 1);
        Due.is("undone(0)", none.undone(0), 2);
        Due.is("undone(1)", none.undone(1), 0);
        // The always is begun behind the last of the 2000 steps, and cannot go on.
        TestText full = having("test t\n" + steps(79) + "always\nfault 2 on\nend\n");
        Due.is("run()", full.run(), 2);
        Due.left(full, 1, 2, 0, 2000);
        Due.is("ended(1)", full.ended(1), 1);
        Due.is("undone(0)", full.undone(0), 0);
        Due.is("cover(0, 1)", full.cover(0, 1), 7 + 79 + 1);
        TestText before = having("name a\ntest t\n" + steps(77) + "set a 1\ncheck a = 2\n"
                + "always\nfault 2 on\nfault 3 on\nend\n");
        Due.is("run()", before.run(), 1);
        Due.left(before, 1, 1, 90, 1998);
        Due.is("cover(2, 0)", before.cover(2, 0), 2000);
        Due.is("undone(0)", before.undone(0), 2);
        Due.is("undone(1)", before.undone(1), 0);
        Due.is("shorter()", before.shorter(), 1998);
    }
}
