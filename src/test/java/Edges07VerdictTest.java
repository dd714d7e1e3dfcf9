/** The boundary cases of promise 7, sentence by sentence. */
public final class Edges07VerdictTest {
    private static final String TWELVE = "test a\ntest b\ntest c\ntest d\ntest e\ntest f\ntest g\ntest h\ntest i\n"
            + "test j\ntest k\ntest l\n";

    public static void main(String[] args) {
        inTheLastRun();
        itsVerdict();
        lineOrZero();
        timeOfThatStep();
        couldNotBegin();
        behindItsLastOne();
        thereIsNone();
        noSuchWhat();
        noRun();
        Due.close();
    }

    private static void inTheLastRun() {
        Due.sentence(7, "Of test i (from 1 on) in the last RUN");
        Calls x = Calls.of("name a", "test t", "check a = 1", "check a = 1", "test u");
        x.run(2).left(1, 2, 3, 0).left(2, 0, 0, 0).answer(1, 1, 0, 1).answer(1, 2, 1, 2).left(1, 2, 3, 0);
        x.run(1).left(1, 1, 4, 1).answer(1, 1, 1, 3).left(1, 1, 4, 1).run(0).left(1, 0, 0, 2).left(2, 0, 0, 0);
        // A RUN that is refused is none.
        for (int run = 4; run <= 8; run++) {
            x.run(0);
        }
        x.answer(1, 2, 1, 4).run(-4).left(1, 0, 0, 2);
    }

    private static void itsVerdict() {
        Due.sentence(7, "what = 0 its verdict");
        Calls.of("name a", "test t", "test u", "set a 1", "check a = 2", "test v", "check a = 2", "test w", "set a 1")
                .run(2).verdict(1, 0, 0).verdict(2, 0, 1).verdict(3, 0, 2).verdict(4, 0, 0);
    }

    private static void lineOrZero() {
        Due.sentence(7, "1 the line of the step by which it was left, or 0");
        Calls.of("name a", "test t", "test u", "", "set a 1", " ", "check a = 2", "test v", "wait a = 2 0", "test w",
                "always", "check a = 1", "end").run(2).verdict(1, 1, 0).verdict(2, 1, 7).verdict(3, 1, 9)
                .verdict(4, 1, 12);
        Calls.having("\n".repeat(1000) + "name a\ntest t\ncheck a = 1").run(2).verdict(1, 1, 1003);
    }

    private static void timeOfThatStep() {
        Due.sentence(7, "2 the time of that step");
        Calls.of("name a", "test t", "check a = 1", "test u", "set a 1", "check a = 2", "test v", "set a 1",
                "wait a = 2 1000", "test w", "wait a = 2 0", "test x", "set a 1", "check a = 2", "always", "set a 1",
                "set a 1", "end").run(2).verdict(1, 2, 0).verdict(2, 2, 1).verdict(3, 2, 1001).verdict(4, 2, 0)
                .verdict(5, 2, 1);
    }

    private static void couldNotBegin() {
        Due.sentence(7, "(of one that could not begin any more the time at hand)");
        Calls.having("name a\ntest t\nwait a = 1 9\n" + Due.many(8, "loop 20") + Due.many(8, "end")
                + "test u\nset a 1\ntest v").answer(1, 1, 5, 1).run(2).left(1, 2, 0, 2005).left(2, 2, 0, 0)
                .left(3, 0, 0, 0);
    }

    private static void behindItsLastOne() {
        Due.sentence(7, "or that behind its last one (always' steps, too)");
        Calls.of("name a", "test t", "test u", "set a 1", "test v", "always", "end", "test w", "set a 1", "always",
                "set a 1", "set a 1", "end", "test x", "wait a = 1 9", "always", "wait a = 2 9", "end")
                .answer(1, 1, 3, 1).answer(1, 2, 9, 2).run(0).verdict(1, 2, 0).verdict(2, 2, 1).verdict(3, 2, 1)
                .verdict(4, 2, 4).verdict(5, 2, 10);
    }

    private static void thereIsNone() {
        Due.sentence(7, "-1 there is none");
        new Calls().verdict(1, 0, -1).verdict(0, 0, -1);
        Calls.of("name a").verdict(1, 0, -1);
        Calls x = Calls.having(TWELVE);
        for (int round = 0; round < 2; round++) {
            for (int i : new int[] {0, 13, -1, Integer.MIN_VALUE, Integer.MAX_VALUE}) {
                x.verdict(i, 0, -1).verdict(i, 2, -1).verdict(i, 3, -1).verdict(i, -1, -1);
            }
            x.verdict(1, 3, -2).verdict(12, 3, -2).run(0).verdict(1, 0, 0).verdict(12, 0, 0);
        }
    }

    private static void noSuchWhat() {
        Due.sentence(7, "-2 no such what");
        Calls x = Calls.having(TWELVE);
        for (int round = 0; round < 2; round++) {
            for (int what : new int[] {-1, 3, Integer.MIN_VALUE, Integer.MAX_VALUE}) {
                x.verdict(1, what, -2).verdict(12, what, -2);
            }
            x.run(0).verdict(1, 0, 0).verdict(1, 1, 0).verdict(1, 2, 0);
        }
    }

    private static void noRun() {
        Due.sentence(7, "-3 there was no RUN");
        Calls x = Calls.having(TWELVE);
        for (int what = 0; what <= 2; what++) {
            x.verdict(1, what, -3).verdict(12, what, -3);
        }
        x.run(0).verdict(1, 0, 0).signs(TWELVE).read(0).verdict(1, 0, -3).verdict(12, 2, -3).run(0).verdict(12, 2, 0);
    }
}
