/** Promise 3: read answers how many steps there are, and begins anew in any case. */
public final class Promise03ReadTest {
    private static final String SOME = Due.lines("name a", "test t", "draw a 0 999999", "always", "end");

    public static void main(String[] args) {
        countsSteps();
        emptiesTheText();
        beginsAnew(SOME, 2);
        beginsAnew("", 0);
        beginsAnew("oh", Due.THROWS);
        forgetsRows();
        forgetsAnswers();
        keepsTheSeed(false);
        keepsTheSeed(true);
        leavesNothingWhenWrong();
        takesNamesWhereverTheyStand();
        takesWordsOfLinesAsNames();
        Due.close();
    }

    private static void countsSteps() {
        Due.right(0, "");
        Due.right(0, "\n\n  \n");
        Due.right(0, "name a");
        Due.right(0, "test a\ntest b");
        Due.right(8, Due.lines("name a", "test t", "set a 1", "draw a 1 1", "wait a = 1 0", "check a = 1",
                "fault 1 on", "loop 1", "end", "cases a 1 2", "end", "always", "end"));
        Due.right(3, Due.lines("name a", "test s", "set a 1", "test t", "test u", "loop 2", "set a 1", "end"));
        Due.right(1, "  name   a \n\n test t\n   set  a    1   ");
        Due.right(100, "test t\n" + Due.many(100, "loop 1\nend"));
        Due.right(110, "test t\n" + Due.many(100, "loop 1\nend") + "test u\n" + Due.many(10, "loop 1\nend"));
    }

    private static void emptiesTheText() {
        TestText x = new TestText();
        Due.type(x, SOME);
        Due.is("read()", Due.reads(x), 2);
        Due.is("read()", Due.reads(x), 0);
        Due.is("run()", x.run(), -3);
        Due.type(x, "oh");
        Due.is("read()", Due.reads(x), Due.THROWS);
        Due.is("read()", Due.reads(x), 0);
    }

    private static void beginsAnew(String text, int due) {
        TestText x = new TestText();
        Due.type(x, SOME);
        Due.reads(x);
        x.answer(1, 5, 0);
        x.plant(3, true);
        x.run();
        x.run();
        Due.is("ended(1)", x.ended(1), 2);
        Due.type(x, text);
        Due.is("read()", Due.reads(x), due);
        Due.is("shorter()", x.shorter(), -3);
        Due.is("cases(0, 0)", x.cases(0, 0), -1);
        Due.is("differ(1, 2)", x.differ(1, 2), -2);
        Due.is("cover(2, 0)", x.cover(2, 0), 0);
        Due.is("undone(0)", x.undone(0), 0);
        Due.is("plant(4, true)", x.plant(4, true), 1);
        if (due == 2) {
            Due.is("ended(1)", x.ended(1), 0);
            Due.is("cover(0, 1)", x.cover(0, 1), 0);
            Due.is("verdict(1, 0)", x.verdict(1, 0), -3);
            Due.is("answer(1, 5, 0)", x.answer(1, 5, 0), 1);
            for (int i = 0; i < 8; i++) {
                Due.is("run()", x.run(), 0);
            }
            Due.is("run()", x.run(), -4);
        }
    }

    /** A RUN behind a read tells nothing of one before it. */
    private static void forgetsRows() {
        TestText x = Due.of("name a", "test t", "fault 1 on", "check a = 1", "always", "fault 2 on", "end");
        x.run();
        Due.is("undone(1)", x.undone(1), 2);
        Due.type(x, "name a\ntest t\nset a 4\nfault 3 on");
        Due.reads(x);
        Due.is("run()", x.run(), 0);
        Due.row(x, 0, 3, 0, 4);
        Due.row(x, 1, 4, 1, 0);
        Due.row(x, 2, -1, -1, -1);
        Due.is("undone(0)", x.undone(0), 3);
        Due.is("undone(1)", x.undone(1), 0);
        Due.is("shorter()", x.shorter(), 2);
        Due.is("cover(2, 0)", x.cover(2, 0), 2);
    }

    private static void forgetsAnswers() {
        TestText x = Due.of("name a", "test t", "check a = 1");
        x.answer(1, 1, 0);
        Due.is("run()", x.run(), 0);
        Due.type(x, "name a\ntest t\ncheck a = 1");
        Due.reads(x);
        Due.is("run()", x.run(), 2);
    }

    private static void keepsTheSeed(boolean wrong) {
        TestText x = Due.of("name a", "test t", "draw a 0 999999");
        x.seed(123456789);
        x.run();
        int drawn = x.cases(0, 2);
        Due.type(x, wrong ? "oh" : "");
        Due.reads(x);
        Due.type(x, SOME);
        Due.reads(x);
        x.run();
        Due.is("cases(0, 2)", x.cases(0, 2), drawn);
        Due.is("cases(0, 2)", x.cases(0, 2), (123456789L * 25173 + 13849 & 0xFFFFFFFFL) / 65536);
    }

    private static void leavesNothingWhenWrong() {
        TestText x = new TestText();
        Due.type(x, SOME + "oh");
        Due.is("read()", Due.reads(x), Due.THROWS);
        Due.is("run()", x.run(), -3);
        Due.is("verdict(1, 0)", x.verdict(1, 0), -1);
        Due.is("ended(1)", x.ended(1), -1);
        Due.is("answer(1, 1, 1)", x.answer(1, 1, 1), -1);
        Due.is("cover(0, 1)", x.cover(0, 1), -1);
        Due.is("cover(1, 1)", x.cover(1, 1), -1);
        Due.is("least(0)", x.least(0), 0);
        Due.type(x, SOME);
        Due.is("read()", Due.reads(x), 2);
    }

    /** No word of the document says that a name's line is wrong in a test, so it is not. */
    private static void takesNamesWhereverTheyStand() {
        Due.right(3, Due.lines("test t", "name a", "set a 1", "loop 2", "name b", "set b 1", "end", "name c"));
        Due.wrongAt(2, Due.lines("test t", "set a 1", "name a"));
    }

    private static void takesWordsOfLinesAsNames() {
        Due.right(2, Due.lines("name name", "name set", "test test", "set set 1", "set name 2"));
        Due.right(4, Due.lines("name end", "name loop", "name on", "test always", "set end 1", "cases loop 1",
                "fault 1 on", "check on = 1", "end"));
    }
}
