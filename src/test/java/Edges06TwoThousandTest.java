/** The boundary of promise 6 that a RUN does at most 2000 steps, sentence by sentence. */
public final class Edges06TwoThousandTest {
    private static final int MOST = 2000;

    public static void main(String[] args) {
        atMostTwoThousand();
        leavesAtWhateverIsOneMore();
        atLineZero();
        alwaysIsNotDone();
        alwaysIsNotGoneOnWith();
        unlessItHadAVerdict();
        allTestsBehind();
        faultsAreUndone();
        theNextRun();
        Due.close();
    }

    /** Lines that do so many steps, 1920 at least, and are themselves few. */
    private static String steps(int n) {
        int rest = n - 1920;
        StringBuilder lines = new StringBuilder("loop 19\nloop 20\n" + Due.many(5, "fault 1 off") + "end\nend\n");
        if (rest > 20) {
            lines.append("loop 20\n").append(Due.many((rest - 1) / 20, "fault 1 off")).append("end\n");
            rest = (rest - 1) % 20;
        }
        return lines + Due.many(rest, "fault 1 off");
    }

    private static int linesOf(String text) {
        return text.split("\n").length;
    }

    private static void atMostTwoThousand() {
        Due.sentence(6, "A RUN does at most 2000 steps: one more leaves the test with ERROR");
        for (int n : new int[] {1920, 1998, 1999, 2000}) {
            Calls.having("test t\n" + steps(n)).run(0).left(1, 0, 0, n).cover(2, 0, n).steps(n).shorter(n)
                    .cases(n - 1, 1, n - 1);
        }
        for (int n : new int[] {2001, 2002, 2019}) {
            Calls.having("test t\n" + steps(n)).run(2).left(1, 2, 0, MOST).cover(2, 0, MOST).steps(MOST).shorter(MOST);
        }
        // Over several tests they count together.
        String half = "loop 20\nloop 19\nfault 1 off\nfault 1 off\nend\nend\n" + Due.many(19, "fault 1 off");
        int ofHalf = 1 + 20 * (1 + 38) + 19;
        String other = steps(1920).replace("loop 19", "loop 11") + Due.many(2000 - 800 - 1112, "fault 1 off");
        Due.is("steps of the first half", ofHalf, 800);
        Calls.having("test t\n" + half + "test u\n" + other).run(0).left(1, 0, 0, 800).left(2, 0, 0, 1200).steps(MOST);
        Calls.having("test t\nfault 1 off\n" + half + "test u\n" + other).run(2).left(1, 0, 0, 801)
                .left(2, 2, 0, 1199).steps(MOST);
        // The dearest text there can be does no more.
        Calls.having("test t\n" + Due.many(8, "loop 20") + "fault 1 on\n" + Due.many(8, "end")).run(2)
                .left(1, 2, 0, MOST).steps(MOST).undone(1);
        Calls.having("test t\n" + Due.many(8, "loop 20") + Due.many(8, "end")).run(2).left(1, 2, 0, MOST).steps(MOST);
        Calls.having("name a\ntest t\n" + Due.many(8, "cases a 1 2 3 4 5 6 7 8 9 10") + Due.many(8, "end")).run(2)
                .left(1, 2, 0, MOST).steps(MOST);
    }

    /** Each kind of step is not begun any more; the time is not gone on with either. */
    private static void leavesAtWhateverIsOneMore() {
        Due.sentence(6, "one more leaves the test with ERROR");
        String head = "name a\ntest t\n";
        for (String line : new String[] {"set a 1", "draw a 1 1", "wait a = 1 9", "check a = 1", "fault 2 on",
            "loop 1\nend", "cases a 1\nend", "always\nend"}) {
            Calls x = Calls.having(head + steps(MOST) + line).run(2).left(1, 2, 0, MOST).steps(MOST).undone();
            x.cover(0, 1, linesOf(steps(MOST)) - 3).ended(1, 0);
        }
        // What is one more stands in a loop, is a case's setting, or the step behind it.
        Calls.having(head + steps(1999) + "loop 1\nset a 1\nend").run(2).left(1, 2, 0, MOST).steps(MOST);
        Calls.having(head + steps(1998) + "loop 1\nset a 1\nend").run(0).left(1, 0, 0, MOST).steps(MOST);
        Calls.having(head + steps(1998) + "loop 2\nset a 1\nend").run(2).left(1, 2, 0, MOST).steps(MOST);
        Calls.having(head + steps(1999) + "cases a 1\nend").run(2).left(1, 2, 0, MOST).steps(MOST);
        Calls.having(head + steps(1998) + "cases a 1\nend").run(0).left(1, 0, 0, MOST).steps(MOST);
        Calls.having(head + steps(1998) + "cases a 1 2\nend").run(2).left(1, 2, 0, MOST).steps(MOST)
                .cases(1999, 2, 1);
        Calls.having(head + steps(1998) + "cases a 1\nset a 2\nend").run(2).left(1, 2, 0, MOST).steps(MOST);
        Calls.having(head + steps(1997) + "cases a 1\nset a 2\nend").run(0).left(1, 0, 0, MOST).steps(MOST);
    }

    private static void atLineZero() {
        Due.sentence(6, "at line 0, and so all tests behind it that have steps, at their first one");
        // The time at hand: behind a wait it is another than the number of steps.
        String waits = "name a\ntest t\nwait a = 1 1000\n";
        Calls.having(waits + steps(1999)).answer(1, 1, 700, 1).run(0).left(1, 0, 0, 700 + MOST);
        Calls.having(waits + steps(2000)).answer(1, 1, 700, 1).run(2).left(1, 2, 0, 700 + MOST);
    }

    private static void alwaysIsNotDone() {
        Due.sentence(6, "its always is not done then, or not gone on with");
        String text = "test t\nalways\nfault 2 on\nend\n";
        Calls.having(text + steps(1999)).run(2).left(1, 2, 0, MOST).steps(MOST).undone();
        Calls.having(text + steps(1998)).run(0).left(1, 0, 0, MOST).steps(MOST).undone(2).ended(1, 1);
        Calls.having(text + steps(2000)).run(2).left(1, 2, 0, MOST).steps(MOST).undone().ended(1, 0);
        Calls.having("test t\nalways\nend\n" + steps(1999)).run(0).left(1, 0, 0, MOST).steps(MOST).ended(1, 1);
        Calls.having("test t\nalways\nend\n" + steps(2000)).run(2).left(1, 2, 0, MOST).steps(MOST).ended(1, 0);
    }

    private static void alwaysIsNotGoneOnWith() {
        Due.sentence(6, "its always is not done then, or not gone on with");
        String always = "always\nfault 2 on\nfault 3 on\nend\n";
        Calls.having("test t\n" + steps(1997) + always).run(0).left(1, 0, 0, MOST).undone(2, 3).ended(1, 1);
        Calls.having("test t\n" + steps(1998) + always).run(2).left(1, 2, 0, MOST).undone(2).ended(1, 1).shorter(MOST);
        Calls.having("test t\n" + steps(1999) + always).run(2).left(1, 2, 0, MOST).undone().shorter(MOST);
        String loops = "always\nloop 2\nfault 2 on\nend\nfault 3 on\nend\n";
        Calls.having("test t\n" + steps(1997) + loops).run(2).left(1, 2, 0, MOST).undone(2).ended(1, 1);
    }

    private static void unlessItHadAVerdict() {
        Due.sentence(6, "unless it had a verdict before");
        String always = "always\nfault 2 on\nfault 3 on\nend\n";
        String fails = "set a 1\ncheck a = 2\n";
        for (int before : new int[] {1996, 1997, 1998}) {
            String text = "name a\ntest t\n" + steps(before) + fails + always;
            Calls x = Calls.having(text).run(1).left(1, 1, 2 + linesOf(steps(before)) + 2, before + 1);
            x.shorter(before + 1).steps(MOST);
            x.undone(before == 1996 ? new int[] {2, 3} : before == 1997 ? new int[] {2} : new int[0]);
        }
        // One that was not known before is ERROR at its own line, not at 0.
        Calls.having("name a\ntest t\n" + steps(1998) + "check a = 1\n" + always).run(2)
                .left(1, 2, 3 + linesOf(steps(1998)), 1998).undone(2).shorter(1998);
    }

    private static void allTestsBehind() {
        Due.sentence(6, "and so all tests behind it that have steps, at their first one");
        String behind = "test u\nset a 1\nalways\nset a 2\nend\ntest v\ntest w\nwait a = 1 9\ntest x\nalways\nend\n"
                + "test y\nloop 1\nend\ntest z\nfault 1 on\n";
        Calls x = Calls.having("name a\ntest t\n" + steps(MOST) + behind).run(2).left(1, 0, 0, MOST);
        x.left(2, 2, 0, 0).left(3, 0, 0, 0).left(4, 2, 0, 0).left(5, 2, 0, 0).left(6, 2, 0, 0).left(7, 2, 0, 0);
        x.steps(MOST).shorter(MOST).undone().ended(2, 0).ended(5, 0);
        for (int test = 2; test <= 7; test++) {
            x.cover(0, test, 0);
        }
        // With a step left for it the next test does its first one, and no other.
        Calls.having("name a\ntest t\n" + steps(1999) + behind).run(2).left(1, 0, 0, 1999).left(2, 2, 0, 1)
                .left(3, 0, 0, 0).left(4, 2, 0, 0).steps(MOST).cover(0, 2, 1).cover(0, 4, 0);
        // Behind the last of the steps there are only tests without any: no one is left.
        Calls.having("test t\n" + steps(MOST) + "test u\ntest v").run(0).left(1, 0, 0, MOST).left(2, 0, 0, 0)
                .left(3, 0, 0, 0);
        Calls.having("test t\n" + steps(2001) + "test u\ntest v").run(2).left(1, 2, 0, MOST).left(2, 0, 0, 0)
                .left(3, 0, 0, 0);
    }

    private static void faultsAreUndone() {
        Due.sentence(6, "Then each fault that is on though it was not from outside is UNDONE, by their numbers");
        Calls.having("test t\nfault 8 on\nfault 2 on\n" + steps(1998) + "test u\nfault 3 on").plant(5, true, 1).run(2)
                .undone(2, 8);
        Calls.having("test t\nfault 8 on\nfault 2 on\n" + steps(1999)).run(2).left(1, 2, 0, MOST).undone(2, 8);
    }

    private static void theNextRun() {
        Due.sentence(6, "A RUN does at most 2000 steps");
        Calls x = Calls.having("test t\n" + steps(2001));
        for (int run = 1; run <= 8; run++) {
            x.run(2).cover(2, 0, run * MOST).differ(1, run, -1);
        }
        x.run(-4).cover(2, 0, 8 * MOST);
    }
}
