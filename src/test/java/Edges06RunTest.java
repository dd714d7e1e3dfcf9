/** The boundary cases of promise 6 and of what a RUN does, sentence by sentence. */
public final class Edges06RunTest {
    public static void main(String[] args) {
        greatestVerdict();
        noTests();
        eightRuns();
        allTestsInOrder();
        timeIsOneMore();
        set();
        check();
        waits();
        waitsForNone();
        fault();
        loop();
        cases();
        always();
        alwaysHoweverItIsLeft();
        alwaysAtTheTimeAtHand();
        alwaysThatLeaves();
        passed();
        Due.close();
    }

    private static void greatestVerdict() {
        Due.sentence(6, "A RUN: the greatest verdict.");
        String passed = "\nset a 1";
        String failed = "\nset a 1\ncheck a = 2";
        String error = "\ncheck a = 1";
        Calls.having("name a\ntest t" + passed).run(0);
        Calls.having("name a\ntest t" + failed).run(1);
        Calls.having("name a\ntest t" + error).run(2);
        Calls.having("name a\ntest t" + failed + "\ntest u" + passed).run(1);
        Calls.having("name a\ntest t" + passed + "\ntest u" + failed).run(1);
        Calls.having("name a\ntest t" + error + "\ntest u" + failed).run(2);
        Calls.having("name a\ntest t" + failed + "\ntest u" + error + "\ntest v" + passed).run(2);
        Calls.having("name a\ntest t" + failed + "\ntest u" + failed).run(1);
        Calls.of("test t").run(0);
    }

    private static void noTests() {
        Due.sentence(6, "-3 there are no tests");
        new Calls().run(-3);
        new Calls().read(0).run(-3);
        Calls.of("name a").run(-3);
        Calls.of("test t").run(0);
        new Calls().signs("test t").run(-3).read(0).run(0);
        new Calls().signs("test t\noh").read(Due.THROWS).run(-3);
        // Of both refusals the first one fits: the text behind 8 RUNS has no tests.
        Calls x = Calls.of("test t");
        for (int i = 0; i < 8; i++) {
            x.run(0);
        }
        x.run(-4).read(0).run(-3);
    }

    private static void eightRuns() {
        Due.sentence(6, "-4 there were 8 RUNS");
        Calls x = Calls.of("name a", "test t", "draw a 0 65535", "draw a 0 65535", "always", "fault 1 on", "end");
        for (int i = 1; i <= 8; i++) {
            x.seed(i).run(0).ended(1, i).cover(2, 0, 4 * i);
        }
        x.cases(1, 2, (int) (((8 * 25173 + 13849) * 25173L + 13849) % (1L << 32) / 65536));
        x.seed(1).plant(1, true, 1).run(-4).run(-4).ended(1, 8).cover(2, 0, 32).differ(8, 8, -1).differ(8, 9, -2);
        x.differ(1, 8, 0).undone(1).cases(1, 2, (int) (((8 * 25173 + 13849) * 25173L + 13849) % (1L << 32) / 65536));
    }

    private static void allTestsInOrder() {
        Due.sentence(6, "A RUN does all tests in order, each from time 0 on, with no value set and the faults that "
                + "were planted from outside.");
        Calls.of("name a", "test t", "set a 1", "test u", "test v", "check a = 1", "set a 2", "test w", "set a 3",
                "check a = 3").run(2).lines(3, 6, 9, 10).row(0, 3, 0, 1).row(1, 6, 0, 0).row(2, 9, 0, 3)
                .row(3, 10, 1, 0);
        // The next RUN begins anew, too.
        Calls.of("name a", "test t", "check a = 1", "set a 1", "always", "set a 1", "end").run(2).run(2)
                .row(0, 3, 0, 0);
        Calls.of("test t", "fault 2 on", "fault 1 off", "test u", "fault 1 on", "test v").plant(1, true, 1).run(0)
                .undone(2).run(0).undone(2);
    }

    private static void timeIsOneMore() {
        Due.sentence(6, "A STEP is at a time; behind it the time is one more.");
        Calls.of("name a", "test t", "set a 1", "draw a 1 1", "wait a = 1 0", "check a = 1", "fault 1 on", "loop 1",
                "end", "cases a 1", "end", "always", "end").run(0).row(0, 3, 0, 1).row(1, 4, 1, 1).row(2, 5, 2, 0)
                .row(3, 6, 3, 0).row(4, 7, 4, 0).row(5, 8, 5, 0).row(6, 10, 6, 0).row(7, 10, 7, 1).row(8, 12, 8, 0)
                .steps(9).left(1, 0, 0, 9);
        Calls.of("test t").run(0).steps(0).left(1, 0, 0, 0);
        Calls.of("name a", "test t", "wait a = 1 9", "set a 2").answer(1, 1, 9, 1).run(0).row(0, 3, 9, 0)
                .row(1, 4, 10, 2).left(1, 0, 0, 11);
    }

    private static void set() {
        Due.sentence(6, "set: the value is that.");
        for (int number : new int[] {-999999, -1, 0, 1, 999999}) {
            Calls.of("name a", "test t", "set a " + number, "check a = " + number).run(0).row(0, 3, 0, number);
        }
    }

    private static void check() {
        Due.sentence(6, "check: if the value is not known, the test leaves with verdict 2 ERROR; if it does not hold "
                + "(= the same, < less, > more, ! another), with 1 FAILED.");
        for (int number : new int[] {-999999, -5, 0, 5, 999999}) {
            for (String op : new String[] {"=", "<", ">", "!"}) {
                Calls.of("name a", "test t", "check a " + op + " " + number, "set a 0").run(2).steps(1)
                        .left(1, 2, 3, 0);
                for (int beside = -1; beside <= 1; beside++) {
                    holds(op, number, number + beside);
                }
            }
        }
        Calls.of("name a", "test t", "set a -999999", "check a < 999999", "check a ! 999999").run(0);
        Calls.of("name a", "test t", "set a 999999", "check a > -999999", "check a ! -999999").run(0);
        Calls.of("name a", "test t", "set a 5", "check a = -5").run(1);
        // It leaves all that is around the step, too.
        for (String step : new String[] {"check a = 9", "wait a = 9 0"}) {
            for (String around : new String[] {"loop 2", "cases a 1 2"}) {
                int first = around.startsWith("loop") ? 2 : 3;
                Calls.of("name a", "test t", "set a 1", around, step, "set a 2", "end", "set a 3").run(1)
                        .steps(1 + first).left(1, 1, 5, first);
                Calls.of("name a", "test t", "set a 1", "loop 2", around, step, "end", "set a 2", "end", "set a 3")
                        .run(1).steps(2 + first).left(1, 1, 6, 1 + first);
                Calls.of("name a", "test t", "cases a 1 2", around, step, "end", "set a 2", "end", "set a 3").run(1)
                        .steps(2 + first).left(1, 1, 5, 1 + first);
                Calls.of("name a", "test t", "set a 1", "always", "loop 2", around, step, "end", "end", "end").run(1)
                        .steps(3 + first).left(1, 1, 7, 2 + first);
            }
        }
    }

    private static void holds(String op, int number, int is) {
        if (is < -999999 || is > 999999) {
            return;
        }
        boolean due = op.equals("=") ? is == number : op.equals("<") ? is < number : op.equals(">") ? is > number
                : is != number;
        Calls x = Calls.of("name a", "test t", "set a " + is, "check a " + op + " " + number, "set a 0");
        x.run(due ? 0 : 1).left(1, due ? 0 : 1, due ? 0 : 4, due ? 3 : 1).steps(due ? 3 : 2);
        Calls y = Calls.of("name a", "test t", "set a " + is, "wait a " + op + " " + number + " 2", "set a 0");
        y.run(due ? 0 : 1).row(1, 4, due ? 1 : 3, 0).steps(due ? 3 : 2);
    }

    private static void waits() {
        Due.sentence(6, "wait: at the first of the times from now on up to time more at which the value is known and "
                + "that holds, it is done, and that is its time");
        String[] text = {"name a", "name b", "test t", "set b 0", "set b 0", "wait a = 5 3", "set b 0"};
        // It waits from time 2 to time 5.
        int[] done = {2, 2, 2, 3, 4, 5};
        for (int time = 0; time <= 5; time++) {
            Calls.of(text).answer(1, 5, time, 1).run(0).row(2, 6, done[time], 0).row(3, 7, done[time] + 1, 0);
        }
        Calls.of(text).answer(1, 5, 6, 1).run(1).row(2, 6, 5, 0).steps(3);
        Calls.of(text).answer(1, 5, 0, 1).answer(1, 6, 2, 2).answer(1, 5, 3, 3).run(0).row(2, 6, 3, 0);
        Calls.of(text).answer(1, 5, 1, 1).answer(1, 6, 3, 2).run(0).row(2, 6, 2, 0);
        Calls.of(text).answer(1, 5, 3, 1).answer(1, 6, 4, 2).answer(1, 5, 5, 3).run(0).row(2, 6, 3, 0);
        Calls.of(text).answer(1, 6, 3, 1).answer(1, 5, 5, 2).run(0).row(2, 6, 5, 0);
        Calls.of(text).answer(2, 5, 3, 1).run(1).row(2, 6, 5, 0);
        // For no time more: now alone.
        String[] now = {"name a", "name b", "test t", "set b 0", "wait a = 5 0", "set b 0"};
        Calls.of(now).answer(1, 5, 0, 1).run(0).row(1, 5, 1, 0).row(2, 6, 2, 0);
        Calls.of(now).answer(1, 5, 1, 1).run(0).row(1, 5, 1, 0).row(2, 6, 2, 0);
        Calls.of(now).answer(1, 5, 2, 1).run(1).row(1, 5, 1, 0).steps(2);
        // For the longest time.
        String[] longest = {"name a", "test t", "wait a = 5 1000"};
        Calls.of(longest).answer(1, 5, 999, 1).run(0).row(0, 3, 999, 0).left(1, 0, 0, 1000);
        Calls.of(longest).answer(1, 5, 1000, 1).run(0).row(0, 3, 1000, 0).left(1, 0, 0, 1001);
        Calls.of(longest).answer(1, 5, 1001, 1).run(1).row(0, 3, 1000, 0).left(1, 1, 3, 1000);
        // What is set holds from now on; a value that is not known is not another one.
        Calls.of("name a", "test t", "set a 5", "wait a = 5 9").run(0).row(1, 4, 1, 0);
        Calls.of("name a", "test t", "wait a ! 5 9").answer(1, 6, 7, 1).run(0).row(0, 3, 7, 0);
        Calls.of("name a", "test t", "set a 5", "wait a ! 5 9").answer(1, 5, 3, 1).answer(1, 4, 4, 2).run(0)
                .row(1, 4, 4, 0);
    }

    private static void waitsForNone() {
        Due.sentence(6, "if there is none, its time is the last of these, and the test leaves with FAILED");
        Calls.of("name a", "test t", "wait a = 5 0", "set a 5").run(1).row(0, 3, 0, 0).left(1, 1, 3, 0).steps(1);
        Calls.of("name a", "test t", "wait a = 5 1", "set a 5").run(1).row(0, 3, 1, 0).left(1, 1, 3, 1).steps(1);
        Calls.of("name a", "test t", "wait a ! 5 1000", "set a 5").run(1).row(0, 3, 1000, 0).left(1, 1, 3, 1000);
        Calls.of("name a", "test t", "set a 4", "wait a = 5 7", "set a 5").run(1).row(1, 4, 8, 0).left(1, 1, 4, 8);
    }

    private static void fault() {
        Due.sentence(6, "fault: it is on, or off.");
        Calls.of("test t", "fault 1 on", "fault 8 on").run(0).undone(1, 8).row(0, 2, 0, 0).row(1, 3, 1, 0);
        Calls.of("test t", "fault 1 on", "fault 8 on", "fault 1 off", "fault 8 off").run(0).undone();
        Calls.of("test t", "fault 1 off", "fault 1 on", "fault 1 on").run(0).undone(1);
        Calls.of("test t", "fault 1 on", "fault 1 on", "fault 1 off").run(0).undone();
        Calls.of("test t", "fault 1 on", "fault 2 off").run(0).undone(1);
    }

    private static void loop() {
        Due.sentence(6, "loop: a step of its own, once, and then n times its steps.");
        Calls.of("name a", "test t", "loop 1", "set a 1", "end", "set a 2").run(0).lines(3, 4, 6);
        Calls.of("name a", "test t", "loop 2", "set a 1", "end", "set a 2").run(0).lines(3, 4, 4, 6);
        Calls.of("name a", "test t", "loop 20", "end", "set a 2").run(0).lines(3, 5);
        Calls.of("name a", "test t", "loop 20", "set a 1", "end").run(0).row(0, 3, 0, 0).row(20, 4, 20, 1).steps(21);
        Calls.of("name a", "test t", "loop 2", "loop 2", "end", "loop 2", "set a 1", "end", "end").run(0)
                .lines(3, 4, 6, 7, 7, 4, 6, 7, 7);
        String deep = Due.many(8, "loop 2") + "fault 1 on\n" + Due.many(8, "end");
        Calls.having("test t\n" + deep).run(0).cover(2, 0, 511).left(1, 0, 0, 511).cases(7, 0, 9).cases(8, 0, 10)
                .cases(9, 0, 10).cases(10, 0, 9);
        String once = Due.many(8, "loop 1") + "fault 1 on\n" + Due.many(8, "end");
        Calls.having("test t\n" + once).run(0).lines(2, 3, 4, 5, 6, 7, 8, 9, 10);
        String inAlways = "always\n" + Due.many(7, "loop 1") + "fault 1 on\n" + Due.many(8, "end");
        Calls.having("test t\n" + inAlways).run(0).lines(2, 3, 4, 5, 6, 7, 8, 9, 10);
    }

    private static void cases() {
        Due.sentence(6, "cases: a step, then for each number, in order: the value is set to it (a step of the same "
                + "line), then the steps.");
        Calls.of("name a", "test t", "cases a 7", "check a = 7", "end", "check a = 7").run(0).row(0, 3, 0, 0)
                .row(1, 3, 1, 7).row(2, 4, 2, 0).row(3, 6, 3, 0).steps(4);
        Calls.of("name a", "test t", "cases a -999999 999999", "end", "check a = 999999").run(0).row(0, 3, 0, 0)
                .row(1, 3, 1, -999999).row(2, 3, 2, 999999).row(3, 5, 3, 0).steps(4);
        Calls x = Calls.of("name a", "test t", "cases a 1 2 3 4 5 6 7 8 9 10", "check a > 0", "end").run(0).steps(21);
        for (int i = 1; i <= 10; i++) {
            x.row(2 * i - 1, 3, 2 * i - 1, i);
        }
        Calls.of("name a", "test t", "cases a 1 1", "set a 2", "end").run(0).lines(3, 3, 4, 3, 4).cases(3, 2, 1);
        Calls.having("name a\ntest t\n" + Due.many(8, "cases a 1 2") + Due.many(8, "end")).run(0)
                .cover(2, 0, 3 * 255);
    }

    private static void always() {
        Due.sentence(6, "always: a step that does nothing, where it stands.");
        Calls.of("name a", "test t", "always", "end").run(0).row(0, 3, 0, 0).steps(1).left(1, 0, 0, 1);
        Calls.of("name a", "test t", "set a 1", "always", "set a 2", "end", "check a = 1").run(0).lines(3, 4, 7, 5)
                .row(1, 4, 1, 0);
    }

    private static void alwaysHoweverItIsLeft() {
        Due.sentence(6, "However the test is left, behind its last step or by a verdict, the steps of its always are "
                + "done then, once");
        Calls.of("name a", "test t", "always", "set a 1", "set a 2", "end").run(0).lines(3, 4, 5).ended(1, 1);
        Calls.of("name a", "test t", "always", "set a 1", "end", "set a 2").run(0).lines(3, 6, 4).ended(1, 1);
        Calls.of("name a", "test t", "always", "set a 1", "end", "check a = 1").run(2).lines(3, 6, 4).ended(1, 1);
        // Left before it comes to where always stands.
        Calls.of("name a", "test t", "check a = 1", "always", "set a 1", "end").run(2).lines(3, 5).ended(1, 1);
        Calls.of("name a", "test t", "wait a = 1 4", "always", "set a 1", "end").run(1).lines(3, 5).ended(1, 1);
        Calls.of("name a", "test t", "cases a 1 2", "loop 2", "check a = 1", "end", "end", "set a 3", "always",
                "set a 4", "end").run(1).lines(3, 3, 4, 5, 5, 3, 4, 5, 10);
        // A test that has none, and one whose always has no steps.
        Calls.of("name a", "test t", "check a = 1", "test u", "check a = 1", "always", "end").run(2).lines(3, 5)
                .ended(1, 0).ended(2, 1);
    }

    private static void alwaysAtTheTimeAtHand() {
        Due.sentence(6, "at the time at hand (of a step by which it is left its own; else that behind the last one), "
                + "if it has one");
        Calls.of("name a", "test t", "set a 1", "check a = 2", "always", "set a 3", "set a 4", "end").run(1)
                .row(1, 4, 1, 0).row(2, 6, 1, 3).row(3, 7, 2, 4).left(1, 1, 4, 1);
        Calls.of("name a", "test t", "set a 1", "wait a = 2 6", "always", "set a 3", "end").run(1).row(1, 4, 7, 0)
                .row(2, 6, 7, 3).left(1, 1, 4, 7);
        Calls.of("name a", "test t", "check a = 2", "always", "set a 3", "end").run(2).row(0, 3, 0, 0).row(1, 5, 0, 3)
                .left(1, 2, 3, 0);
        Calls.of("name a", "test t", "set a 1", "always", "set a 3", "end").run(0).row(1, 4, 1, 0).row(2, 5, 2, 3)
                .left(1, 0, 0, 3);
        // Its settings stand at that time, so that an answer of the same time does not count behind them.
        String[] text = {"name a", "name b", "test t", "check a = 2", "always", "set b 3", "check b = 3", "set b 4",
            "end"};
        Calls.of(text).answer(2, 5, 0, 1).run(2).lines(4, 6, 7, 8);
        Calls.of(text).answer(2, 5, 1, 1).run(2).lines(4, 6, 7);
        Calls.of(text).answer(2, 5, 2, 1).run(2).lines(4, 6, 7, 8);
    }

    private static void alwaysThatLeaves() {
        Due.sentence(6, "if they leave with a verdict, they are not gone on with, and that counts only if there was "
                + "none before");
        Calls.of("name a", "test t", "set a 1", "always", "check a = 2", "set a 3", "end").run(1).lines(3, 4, 5)
                .left(1, 1, 5, 2);
        Calls.of("name a", "test t", "always", "check a = 2", "set a 3", "end").run(2).lines(3, 4).left(1, 2, 4, 1);
        Calls.of("name a", "test t", "always", "wait a = 2 5", "set a 3", "end").run(1).lines(3, 4).left(1, 1, 4, 6);
        // FAILED before, ERROR in it; and the other way round.
        Calls.of("name a", "name b", "test t", "set a 1", "check a = 2", "always", "check b = 2", "set a 3", "end")
                .run(1).lines(4, 5, 7).left(1, 1, 5, 1);
        Calls.of("name a", "test t", "check a = 2", "always", "set a 1", "check a = 2", "set a 3", "end").run(2)
                .lines(3, 5, 6).left(1, 2, 3, 0);
        // They are done once: the verdict in them does not begin them again.
        Calls.of("name a", "test t", "always", "loop 2", "check a = 2", "end", "end").run(2).lines(3, 4, 5)
                .ended(1, 1).left(1, 2, 5, 2);
    }

    private static void passed() {
        Due.sentence(6, "The verdict is 0 PASSED if there was none.");
        Calls.of("test t").run(0).left(1, 0, 0, 0);
        Calls.of("name a", "test t", "check a = 1", "test u", "always", "end").run(2).verdict(1, 0, 2).left(2, 0, 0, 1);
        // A RUN in which there is none behind one in which there was.
        Calls.of("name a", "test t", "check a = 1").run(2).answer(1, 1, 0, 1).run(0).left(1, 0, 0, 1);
    }
}
