/** The boundary cases of promise 5 and of what a value IS at a time, sentence by sentence. */
public final class Edges05AnswerTest {
    public static void main(String[] args) {
        howManyThereAre();
        noValue();
        outsideARange();
        thereAreTwoHundred();
        fromATimeOn();
        toldLast();
        setOrDrewLast();
        otherwiseThatAnswer();
        notKnown();
        sameTime();
        Due.close();
    }

    private static void howManyThereAre() {
        Due.sentence(5, "An answer: how many there are.");
        Calls x = Calls.of("name a", "name b", "test t");
        x.answer(1, 0, 0, 1).answer(2, 0, 0, 2).answer(1, 0, 1, 3).run(0).answer(1, 1, 0, 4).answer(1, 1, 0, 5);
    }

    private static void noValue() {
        Due.sentence(5, "-1 there is no value");
        new Calls().answer(1, 0, 0, -1);
        Calls.of("test t").answer(1, 0, 0, -1).answer(0, 0, 0, -1);
        Calls x = Calls.of("name a", "name b", "test t");
        for (int name : new int[] {0, 3, -1, Integer.MIN_VALUE, Integer.MAX_VALUE}) {
            x.answer(name, 0, 0, -1).answer(name, 1000000, 0, -1).answer(name, 0, -1, -1);
        }
        x.answer(1, 0, 0, 1).answer(2, 0, 0, 2);
    }

    private static void outsideARange() {
        Due.sentence(5, "-2 v is below -999999 or above 999999, or t not 0 .. 100000");
        Calls x = Calls.of("name a", "test t");
        x.answer(1, -1000000, 0, -2).answer(1, -999999, 0, 1).answer(1, -999998, 0, 2);
        x.answer(1, 999998, 0, 3).answer(1, 999999, 0, 4).answer(1, 1000000, 0, -2);
        x.answer(1, 0, -1, -2).answer(1, 0, 0, 5).answer(1, 0, 1, 6);
        x.answer(1, 0, 99999, 7).answer(1, 0, 100000, 8).answer(1, 0, 100001, -2);
        x.answer(1, 1000000, -1, -2).answer(1, -1000000, 100001, -2);
        // What would be in range if it were cut to its lowest bits.
        for (long far : new long[] {1L << 31, 1L << 32, (1L << 32) + 5, -(1L << 32), -(1L << 31), Long.MIN_VALUE,
            Long.MAX_VALUE, Long.MIN_VALUE + 5}) {
            x.answer(1, far, 0, -2).answer(1, 0, far, -2);
        }
        x.answer(1, 0, 0, 9);
        // The outermost values and times are told as they are.
        Calls.of("name a", "test t", "check a = -999999", "check a = 999999").answer(1, -999999, 0, 1)
                .answer(1, 999999, 1, 2).run(0);
        atTheLastTime();
        ofTheNextValue();
    }

    /** An answer of one value's last time is none of the next value's first times, nor the other way round. */
    private static void ofTheNextValue() {
        String[] text = {"name a", "name b", "name c", "test t", "wait b ! 0 9"};
        for (long time : new long[] {0, 1, 99998, 99999, 100000}) {
            Calls.of(text).answer(1, 5, time, 1).answer(3, 5, time, 2).run(1).row(0, 5, 9, 0);
            Calls.of(text).answer(1, 5, time, 1).answer(3, 5, time, 2).answer(2, 5, 4, 3).run(0).row(0, 5, 4, 0);
        }
    }

    /** Wait k is done at 1001 * k, the last time at which it may be; wait 100 at 100000 instead. */
    private static void atTheLastTime() {
        Calls x = Calls.of("name a", "test t", "loop 20", "wait a = 1 1000", "wait a = 2 1000", "wait a = 1 1000",
                "wait a = 2 1000", "wait a = 1 1000", "wait a = 2 1000", "end");
        for (int k = 1; k <= 99; k++) {
            x.answer(1, 2 - k % 2, 1001 * k, k);
        }
        x.run(1).row(100, 7, 1001 * 99 + 1001, 0).shorter(100);
        x.answer(1, 2, 100000, 100).run(1).row(99, 6, 99099, 0).row(100, 7, 100000, 0).row(101, 8, 101001, 0);
        x.left(1, 1, 8, 101001);
    }

    private static void thereAreTwoHundred() {
        Due.sentence(5, "-4 there are 200");
        Calls x = Calls.of("name a", "name b", "test t", "check a = 199", "check b = 5");
        for (int i = 1; i <= 198; i++) {
            x.answer(1, i, 0, i);
        }
        x.answer(2, 5, 1, 199).answer(1, 199, 0, 200);
        x.answer(1, 7, 0, -4).answer(2, 7, 1, -4).answer(2, 7, 0, -4).answer(1, 7, 100000, -4);
        x.answer(3, 7, 0, -1).answer(1, 1000000, 0, -2).answer(1, 0, 100001, -2).answer(1, 7, 1, -4).run(0);
        // As many as there can be, each of another time, told from the last on.
        Calls y = Calls.of("name a", "test t", "wait a = 200 1000", "wait a = 1 1000");
        for (int i = 1; i <= 200; i++) {
            y.answer(1, i, 3 * (201 - i), i);
        }
        y.answer(1, 200, 0, -4).run(0).row(0, 3, 3, 0).row(1, 4, 600, 0);
    }

    private static void fromATimeOn() {
        Due.sentence(5, "ANSWERS are told beforehand: a value is v from a time on (until the next such time");
        String[] text = {"name a", "name b", "test t", "set b 0", "set b 0", "check a = 5", "set b 0"};
        // The check stands at time 2.
        Calls.of(text).answer(1, 5, 1, 1).run(0);
        Calls.of(text).answer(1, 5, 2, 1).run(0);
        Calls.of(text).answer(1, 5, 3, 1).run(2).left(1, 2, 6, 2);
        Calls.of(text).answer(1, 5, 0, 1).answer(1, 6, 1, 2).run(1).left(1, 1, 6, 2);
        Calls.of(text).answer(1, 5, 0, 1).answer(1, 6, 2, 2).run(1).left(1, 1, 6, 2);
        Calls.of(text).answer(1, 5, 0, 1).answer(1, 6, 3, 2).run(0);
        Calls.of(text).answer(1, 6, 3, 1).answer(1, 5, 0, 2).run(0);
        Calls.of(text).answer(1, 6, 1, 1).answer(1, 5, 2, 2).answer(1, 6, 3, 3).run(0);
        Calls.of(text).answer(2, 5, 2, 1).run(2);
        // At time 0, too, and for as long as there are steps.
        Calls.of("name a", "test t", "check a = 5").answer(1, 5, 0, 1).run(0);
        Calls.of("name a", "test t", "check a = 5").answer(1, 5, 1, 1).run(2);
        Calls.of("name a", "name b", "test t", "wait b = 1 1000", "check a = 5").answer(1, 5, 0, 1)
                .answer(2, 1, 1000, 2).run(0);
    }

    private static void toldLast() {
        Due.sentence(5, "of one time the one told last");
        String[] text = {"name a", "name b", "test t", "set b 0", "check a = 5"};
        Calls.of(text).answer(1, 6, 1, 1).answer(1, 5, 1, 2).run(0);
        Calls.of(text).answer(1, 5, 1, 1).answer(1, 6, 1, 2).run(1);
        Calls.of(text).answer(1, 5, 1, 1).answer(1, 6, 1, 2).answer(1, 5, 1, 3).run(0);
        // Of two times the later one, however they are told.
        Calls.of(text).answer(1, 5, 1, 1).answer(1, 6, 0, 2).run(0);
        Calls.of(text).answer(1, 6, 0, 1).answer(1, 5, 1, 2).run(0);
        Calls.of(text).answer(1, 5, 0, 1).answer(1, 6, 1, 2).answer(1, 7, 0, 3).run(1);
        // One told last of the same time stands for a wait, too.
        Calls.of("name a", "test t", "wait a = 5 9").answer(1, 5, 4, 1).answer(1, 6, 4, 2).answer(1, 5, 7, 3).run(0)
                .row(0, 3, 7, 0);
    }

    private static void setOrDrewLast() {
        Due.sentence(5, "A value IS at a time: what the test set or drew last, at that time or before, if there is no "
                + "answer of a later time, up to that time");
        Calls.of("name a", "test t", "set a 5", "check a = 5").run(0);
        Calls.of("name a", "test t", "set a 6", "set a 5", "check a = 5").run(0);
        Calls.of("name a", "test t", "set a 6", "draw a 5 5", "check a = 5").run(0);
        Calls.of("name a", "test t", "draw a 6 6", "set a 5", "check a = 5").run(0);
        Calls.of("name a", "test t", "set a 6", "cases a 5", "check a = 5", "end", "check a = 5").run(0);
        // The set stands at time 1, the check at time 3.
        String[] text = {"name a", "name b", "test t", "set b 0", "set a 5", "set b 0", "check a = 5", "set b 0"};
        Calls.of(text).answer(1, 9, 0, 1).run(0);
        Calls.of(text).answer(1, 9, 1, 1).run(0);
        Calls.of(text).answer(1, 9, 2, 1).run(1).left(1, 1, 7, 3);
        Calls.of(text).answer(1, 9, 3, 1).run(1).left(1, 1, 7, 3);
        Calls.of(text).answer(1, 9, 4, 1).run(0);
        Calls.of(text).answer(2, 9, 2, 1).run(0);
    }

    private static void otherwiseThatAnswer() {
        Due.sentence(5, "otherwise that answer");
        String[] text = {"name a", "test t", "set a 5", "check a = 6", "check a = 6", "set a 5", "check a = 5"};
        Calls.of(text).answer(1, 6, 1, 1).run(0);
        Calls.of(text).answer(1, 6, 1, 1).answer(1, 6, 2, 2).answer(1, 6, 3, 3).run(0);
        Calls.of(text).answer(1, 6, 1, 1).answer(1, 6, 4, 2).run(1).left(1, 1, 7, 4);
        // Of answers behind the setting the last one, up to the time of the check.
        Calls.of(text).answer(1, 7, 1, 1).answer(1, 6, 2, 2).run(1).left(1, 1, 4, 1);
        Calls.of(text).answer(1, 6, 1, 1).answer(1, 7, 2, 2).run(1).left(1, 1, 5, 2);
    }

    private static void notKnown() {
        Due.sentence(5, "without either it is not known");
        Calls.of("name a", "test t", "check a = 0").run(2);
        Calls.of("name a", "test t", "check a ! 0").run(2);
        Calls.of("name a", "name b", "test t", "set b 0", "check a = 0").answer(2, 0, 0, 1).run(2).left(1, 2, 5, 1);
        Calls.of("name a", "name b", "test t", "set a 0", "check b = 0").answer(1, 0, 0, 1).run(2).left(1, 2, 5, 1);
        // What another test set does not count.
        Calls.of("name a", "test t", "set a 0", "test u", "check a = 0").run(2).left(2, 2, 5, 0);
        // Nor does a setting behind the check.
        Calls.of("name a", "test t", "check a = 0", "set a 0").run(2).left(1, 2, 3, 0);
    }

    private static void sameTime() {
        Due.sentence(5, "(An answer of the same time as a setting does not count.)");
        for (String line : new String[] {"set a 5", "draw a 5 5"}) {
            Calls.of("name a", "test t", line, "check a = 5", "check a = 5").answer(1, 9, 0, 1).run(0);
            Calls.of("name a", "test t", line, "check a = 5", "check a = 5").answer(1, 9, 1, 1).run(1).left(1, 1, 4, 1);
            Calls.of("name a", "test t", line, "wait a = 9 5").answer(1, 9, 0, 1).run(1).left(1, 1, 4, 6);
        }
        // The case is set at time 1.
        String[] text = {"name a", "test t", "cases a 5", "check a = 5", "end"};
        Calls.of(text).answer(1, 9, 0, 1).run(0);
        Calls.of(text).answer(1, 9, 1, 1).run(0);
        Calls.of(text).answer(1, 9, 2, 1).run(1).left(1, 1, 4, 2);
    }
}
