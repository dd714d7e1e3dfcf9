/** The boundary cases of promise 10 and of UNDONE, sentence by sentence. */
public final class Edges10UndoneTest {
    public static void main(String[] args) {
        theIth();
        theFirstHundred();
        thereIsNone();
        onThoughNotFromOutside();
        offThoughItWasOn();
        Due.close();
    }

    private static void theIth() {
        Due.sentence(10, "The i-th fault (from 0");
        Calls.of("test t", "fault 3 on").run(0).undoneAt(-1, 0).undoneAt(0, 3).undoneAt(1, 0);
        Calls.of("test t", "fault 8 on", "fault 1 on", "test u", "test v", "fault 7 on", "fault 6 on").run(0)
                .undone(1, 8, 6, 7);
    }

    /** 12 tests of 8 faults each: there can be no more than 96, so that all are told. */
    private static void theFirstHundred() {
        Due.sentence(10, "the first 100 of the last RUN) that was UNDONE");
        StringBuilder text = new StringBuilder();
        int[] due = new int[96];
        for (int t = 0; t < 12; t++) {
            text.append("test t").append((char) ('a' + t)).append('\n');
            for (int f = 8; f >= 1; f--) {
                text.append("fault ").append(f).append(" on\n");
                due[8 * t + f - 1] = f;
            }
        }
        Calls x = Calls.having(text.toString()).run(0).undone(due);
        for (int i : new int[] {97, 98, 99, 100, 101}) {
            x.undoneAt(i, 0);
        }
        // Of the last RUN, not of those before it.
        for (int f = 2; f <= 8; f++) {
            x.plant(f, true, f - 1);
        }
        x.run(0).undone(1, 1, 1, 1, 1, 1, 1, 1, 1, 1, 1, 1).undoneAt(13, 0).undoneAt(95, 0);
        x.plant(1, true, 8).undoneAt(0, 1).run(0).undone();
    }

    private static void thereIsNone() {
        Due.sentence(10, "0 if there is none.");
        new Calls().undoneAt(0, 0).undoneAt(-1, 0);
        Calls x = Calls.of("test t", "fault 1 on").undoneAt(0, 0).run(0);
        for (int i : new int[] {-1, 1, 99, 100, Integer.MIN_VALUE, Integer.MAX_VALUE}) {
            x.undoneAt(i, 0);
        }
        x.undoneAt(0, 1).read(0).undoneAt(0, 0);
        Calls.of("test t").run(0).undone();
    }

    private static void onThoughNotFromOutside() {
        Due.sentence(10, "Then each fault that is on though it was not from outside is UNDONE, by their numbers");
        Calls.of("test t", "fault 8 on", "fault 7 on", "fault 1 on", "fault 2 on").run(0).undone(1, 2, 7, 8);
        Calls.of("test t", "fault 8 on", "fault 7 on", "fault 1 on", "fault 2 on").plant(1, true, 1).plant(8, true, 2)
                .run(0).undone(2, 7);
        Calls.of("test t", "fault 1 on", "fault 1 off").run(0).undone();
        Calls.of("test t", "loop 20", "fault 1 on", "end").run(0).undone(1);
        // Behind the steps of always, and however the test is left.
        Calls.of("test t", "fault 1 on", "fault 2 on", "always", "fault 1 off", "fault 3 on", "end").run(0)
                .undone(2, 3);
        Calls.of("name a", "test t", "fault 1 on", "check a = 1", "fault 2 on", "always", "fault 3 on", "check a = 1",
                "fault 1 off", "end").run(2).undone(1, 3);
        // In each test in which it is so, anew.
        Calls.of("test t", "fault 1 on", "test u", "test v", "fault 1 on").run(0).undone(1, 1);
    }

    private static void offThoughItWasOn() {
        Due.sentence(10, "each that is off though it was on is on again (that is not told)");
        // If fault 1 were not on again, or no longer from outside, the second test's would be UNDONE.
        Calls.of("test t", "fault 1 off", "test u", "fault 1 on").plant(1, true, 1).run(0).undone().run(0).undone()
                .plant(1, true, 1);
        Calls.of("test t", "fault 1 off").plant(1, true, 1).run(0).undone().plant(1, false, 0);
        Calls.of("test t", "fault 8 off", "fault 7 on").plant(8, true, 1).run(0).undone(7);
    }
}
