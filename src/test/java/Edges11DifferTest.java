/** The boundary cases of promise 11, sentence by sentence. */
public final class Edges11DifferTest {
    public static void main(String[] args) {
        firstStep();
        inLine();
        inTime();
        inWhatItSetOrDrew();
        hasNoMore();
        theSame();
        noSuchRun();
        Due.close();
    }

    private static void both(Calls x, int run, int other, int due) {
        x.differ(run, other, due).differ(other, run, due);
    }

    /** The first of several places, the first step of all, the last one, one of a later test. */
    private static void firstStep() {
        Due.sentence(11, "The first step (from 0 on, over all tests) at which two RUNS (from 1 on) differ");
        both(Calls.of("name a", "test t", "draw a 0 65535", "draw a 0 65535").run(0).seed(9999999).run(0), 1, 2, 0);
        both(Calls.of("name a", "test t", "set a 1", "set a 1", "draw a 0 65535").run(0).seed(9999999).run(0), 1, 2, 2);
        both(Calls.of("name a", "test t", "set a 1", "test u", "test v", "set a 1", "set a 1", "test w", "set a 1",
                "draw a 0 65535").run(0).seed(9999999).run(0), 1, 2, 4);
        // The last step that a RUN can do, and one more, which is not done.
        String full = "name a\ntest t\nloop 20\nloop 19\n" + Due.many(4, "fault 1 off") + "end\nend\n"
                + Due.many(77, "fault 1 off") + "test u\nloop 20\nloop 18\nfault 1 off\nend\nend\n";
        String draw = "draw a 0 65535";
        both(Calls.having(full + draw).run(0).seed(9999999).run(0).steps(2000), 1, 2, 1999);
        both(Calls.having(full + "fault 1 on\n" + draw).run(2).seed(9999999).run(2).steps(2000), 1, 2, -1);
    }

    /** Step 1 is at time 1 in both, and sets nothing: a fault, or always' wait for what is so from time 1 on. */
    private static void inLine() {
        Due.sentence(11, "in line, time, or what it set or drew");
        Calls x = Calls.of("name a", "name b", "test t", "check a = 1", "fault 1 off", "always", "wait b = 1 9", "end");
        x.answer(2, 1, 1, 1).answer(1, 1, 0, 2).run(0).lines(4, 5, 6, 7).row(1, 5, 1, 0);
        x.answer(1, 2, 0, 3).run(1).lines(4, 7).row(1, 7, 1, 0);
        both(x, 1, 2, 1);
        // Of the next test's first step the time is another, too.
        Calls y = Calls.of("name a", "test t", "check a = 1", "fault 1 off", "test u", "fault 1 on", "fault 1 off");
        y.answer(1, 1, 0, 1).run(0).answer(1, 2, 0, 2).run(1).answer(1, 1, 0, 3).run(0);
        both(y, 1, 2, 1);
        both(y, 1, 3, -1);
    }

    private static void inTime() {
        Due.sentence(11, "in line, time, or what it set or drew");
        Calls x = Calls.of("name a", "name b", "test t", "set b 1", "wait a = 1 1000");
        x.answer(1, 1, 500, 1).run(0).answer(1, 1, 499, 2).run(0).answer(1, 0, 499, 3).run(0);
        x.answer(1, 0, 500, 4).answer(1, 1, 501, 5).run(0);
        both(x, 1, 2, 1);
        both(x, 1, 3, -1);
        both(x, 1, 4, 1);
    }

    private static void inWhatItSetOrDrew() {
        Due.sentence(11, "in line, time, or what it set or drew");
        // 65535 and 65536 of the row: one drawn is 0, the other 1.
        Calls x = Calls.of("name a", "test t", "draw a 0 65535");
        x.seed(Edges14SeedTest.before(65535)).run(0).cases(0, 2, 0).seed(Edges14SeedTest.before(65536)).run(0);
        x.cases(0, 2, 1).seed(Edges14SeedTest.before(131071)).run(0).cases(0, 2, 1);
        both(x, 1, 2, 0);
        both(x, 2, 3, -1);
    }

    private static void hasNoMore() {
        Due.sentence(11, "where one has no more, that place");
        Calls x = Calls.of("name a", "test t", "check a ! 1", "fault 1 on").answer(1, 2, 0, 1).run(0).steps(2);
        x.answer(1, 1, 0, 2).run(1).steps(1);
        both(x, 1, 2, 1);
        Calls y = Calls.of("name a", "test t", "fault 1 on", "check a ! 1", "fault 1 on", "fault 1 on");
        y.answer(1, 2, 0, 1).run(0).steps(4).answer(1, 1, 1, 2).run(1).steps(2);
        both(y, 1, 2, 2);
    }

    private static void theSame() {
        Due.sentence(11, "-1 they are the same.");
        Calls x = Calls.of("test t").run(0).run(0);
        both(x, 1, 1, -1);
        both(x, 1, 2, -1);
        Calls y = Calls.of("name a", "test t", "draw a 0 9", "check a ! 10").run(0).seed(1).run(0);
        both(y, 1, 2, -1);
        both(y, 2, 2, -1);
        // Faults and answers that change no step are no difference.
        both(Calls.of("test t", "fault 1 on").run(0).plant(1, true, 1).run(0).undone(), 1, 2, -1);
        both(Calls.of("name a", "test t", "check a > 0").answer(1, 1, 0, 1).run(0).answer(1, 2, 0, 2).run(0), 1, 2, -1);
    }

    private static void noSuchRun() {
        Due.sentence(11, "-2 there is no such RUN.");
        both(new Calls(), 1, 1, -2);
        both(new Calls(), 0, 0, -2);
        Calls x = Calls.of("test t");
        both(x, 1, 1, -2);
        for (int runs = 1; runs <= 8; runs++) {
            x.run(0);
            both(x, 1, runs, -1);
            both(x, runs, runs, -1);
            for (int none : new int[] {0, runs + 1, 9, -1, Integer.MIN_VALUE, Integer.MAX_VALUE}) {
                both(x, none, 1, -2);
            }
            both(x, runs + 1, runs + 1, -2);
        }
        x.run(-4);
        both(x, 9, 9, -2);
        both(x, 0, 9, -2);
        both(x.signs("test t").read(0), 1, 1, -2);
    }
}
