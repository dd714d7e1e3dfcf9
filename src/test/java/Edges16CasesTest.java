/** The boundary cases of promise 16, sentence by sentence. */
public final class Edges16CasesTest {
    public static void main(String[] args) {
        ofTheLastRun();
        itsLine();
        itsTime();
        whatItSetOrDrew();
        thereIsNone();
        noSuchWhat();
        Due.close();
    }

    private static void ofTheLastRun() {
        Due.sentence(16, "Step i (from 0 on) of the last RUN");
        Calls x = Calls.of("name a", "test t", "wait a = 1 3", "set a 5").run(1).row(0, 3, 3, 0).steps(1);
        x.answer(1, 1, 2, 1).row(0, 3, 3, 0).run(0).row(0, 3, 2, 0).row(1, 4, 3, 5).steps(2);
        x.answer(1, 2, 2, 2).run(1).row(0, 3, 3, 0).steps(1);
        for (int run = 4; run <= 8; run++) {
            x.run(1);
        }
        x.answer(1, 1, 2, 3).run(-4).row(0, 3, 3, 0).steps(1);
        // Over all tests, the last step that a RUN can do with them.
        Calls.having("test s\nfault 1 on\ntest t\n" + Due.many(8, "loop 20") + Due.many(8, "end")).run(2)
                .row(0, 2, 0, 0).row(1, 4, 0, 0).cases(1998, 1, 1997).cases(1999, 1, 1998).cases(2000, 1, -1)
                .cases(2001, 1, -1);
    }

    private static void itsLine() {
        Due.sentence(16, "what = 0 its line");
        Calls.of("", "name a", "", "test t", " ", "set a 1", "name b", "loop 1", "", "set b 1", "end", "test u",
                "set a 1").run(0).lines(6, 8, 10, 13);
        Calls.having("\n".repeat(1500) + "test t\nfault 1 on").run(0).lines(1502);
    }

    private static void itsTime() {
        Due.sentence(16, "1 its time (of a wait when it was done)");
        Calls.of("name a", "test t", "wait a = 1 1000", "set a 5", "wait a = 5 1000", "wait a = 2 1000", "fault 1 on")
                .answer(1, 1, 1000, 1).run(1).row(0, 3, 1000, 0).row(1, 4, 1001, 5).row(2, 5, 1002, 0)
                .row(3, 6, 2003, 0).steps(4);
        Calls.of("name a", "test t", "wait a = 1 0").answer(1, 1, 0, 1).run(0).row(0, 3, 0, 0);
    }

    private static void whatItSetOrDrew() {
        Due.sentence(16, "2 what it set or drew (0 for others)");
        Calls.of("name a", "test t", "set a -999999", "set a 999999", "draw a -7 -7", "draw a 999999 999999",
                "cases a -999999 999999 0", "end", "set a 5", "check a = 5", "wait a = 5 0", "fault 8 on", "loop 20",
                "end", "always", "set a 0", "end").run(0).row(0, 3, 0, -999999).row(1, 4, 1, 999999).row(2, 5, 2, -7)
                .row(3, 6, 3, 999999).row(4, 7, 4, 0).row(5, 7, 5, -999999).row(6, 7, 6, 999999).row(7, 7, 7, 0)
                .row(8, 9, 8, 5).row(9, 10, 9, 0).row(10, 11, 10, 0).row(11, 12, 11, 0).row(12, 13, 12, 0)
                .row(13, 15, 13, 0).row(14, 16, 14, 0).steps(15);
    }

    private static void thereIsNone() {
        Due.sentence(16, "-1 there is none");
        new Calls().cases(0, 0, -1).cases(-1, 0, -1).cases(0, 3, -1);
        Calls x = Calls.of("test t", "fault 1 on", "fault 2 on").cases(0, 0, -1).cases(0, 3, -1).run(0);
        for (int i : new int[] {-1, 2, 3, 1999, 2000, Integer.MIN_VALUE, Integer.MAX_VALUE}) {
            x.cases(i, 0, -1).cases(i, 1, -1).cases(i, 2, -1).cases(i, 3, -1).cases(i, -1, -1);
        }
        x.row(0, 2, 0, 0).row(1, 3, 1, 0).read(0).cases(0, 0, -1);
        Calls.of("test t").run(0).cases(0, 0, -1).cases(-1, 0, -1);
    }

    private static void noSuchWhat() {
        Due.sentence(16, "-2 no such what.");
        Calls x = Calls.of("test t", "fault 1 on", "fault 2 on").run(0);
        for (int what : new int[] {-1, 3, 4, Integer.MIN_VALUE, Integer.MAX_VALUE}) {
            x.cases(0, what, -2).cases(1, what, -2).cases(2, what, -1);
        }
        x.row(1, 3, 1, 0);
    }
}
