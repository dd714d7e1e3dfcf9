/** Promise 5: answers are told, counted and refused; what a value IS at a time. */
public final class Promise05AnswerTest {
    public static void main(String[] args) {
        countsThem();
        refuses();
        hasRoomForTwoHundred();
        holdsFromItsTimeOn();
        lastToldOfOneTimeCounts();
        comesWithASetting();
        keepsValuesApart();
        holdsAtTheLastTime();
        worksInAnyOrder();
        worksForTheLastValue();
        Due.close();
    }

    private static void countsThem() {
        TestText x = Due.of("name a", "name b", "test t");
        Due.is("answer(1, 1, 1)", x.answer(1, 1, 1), 1);
        Due.is("answer(2, 1, 1)", x.answer(2, 1, 1), 2);
        Due.is("answer(1, 1, 1)", x.answer(1, 1, 1), 3);
        Due.is("answer(1, 999999, 100000)", x.answer(1, 999999, 100000), 4);
        Due.is("answer(1, -999999, 0)", x.answer(1, -999999, 0), 5);
    }

    private static void refuses() {
        TestText x = Due.of("name a", "name b", "test t");
        Due.is("answer(0, 1, 1)", x.answer(0, 1, 1), -1);
        Due.is("answer(3, 1, 1)", x.answer(3, 1, 1), -1);
        Due.is("answer(-1, 1, 1)", x.answer(-1, 1, 1), -1);
        Due.is("answer(MIN, MIN, MIN)", x.answer(Integer.MIN_VALUE, Long.MIN_VALUE, Long.MIN_VALUE), -1);
        Due.is("answer(3, 1000000, -1)", x.answer(3, 1000000, -1), -1);
        Due.is("answer(1, 1000000, 1)", x.answer(1, 1000000, 1), -2);
        Due.is("answer(1, -1000000, 1)", x.answer(1, -1000000, 1), -2);
        Due.is("answer(1, 1, -1)", x.answer(1, 1, -1), -2);
        Due.is("answer(1, 1, 100001)", x.answer(1, 1, 100001), -2);
        Due.is("answer(1, 2^32, 1)", x.answer(1, 1L << 32, 1), -2);
        Due.is("answer(1, 1, 2^32)", x.answer(1, 1, 1L << 32), -2);
        Due.is("answer(1, MAX, 1)", x.answer(1, Long.MAX_VALUE, 1), -2);
        Due.is("answer(1, 1, MIN)", x.answer(1, 1, Long.MIN_VALUE), -2);
        Due.is("answer(1, 1, 1)", x.answer(1, 1, 1), 1);
    }

    private static void hasRoomForTwoHundred() {
        TestText x = Due.of("name a", "test t", "check a = 199", "check a = 199");
        for (int i = 0; i < 200; i++) {
            Due.is("answer(1, " + i + ", 0)", x.answer(1, i, 0), i + 1);
        }
        Due.is("answer(1, 7, 0)", x.answer(1, 7, 0), -4);
        Due.is("answer(1, 7, 1)", x.answer(1, 7, 1), -4);
        Due.is("answer(2, 7, 0)", x.answer(2, 7, 0), -1);
        Due.is("answer(1, 1000000, 0)", x.answer(1, 1000000, 0), -2);
        Due.is("run()", x.run(), 0);
        TestText y = Due.of("name a", "test t", "wait a = 0 1000", "wait a = 199 1000");
        for (int i = 0; i < 200; i++) {
            y.answer(1, i, 1000 - 3 * i);
        }
        Due.is("answer(1, 0, 0)", y.answer(1, 0, 0), -4);
        Due.is("run()", y.run(), 1);
        Due.row(y, 0, 3, 1000, 0);
        Due.left(y, 1, 1, 4, 2001);
    }

    private static void holdsFromItsTimeOn() {
        TestText x = Due.of("name a", "name b", "test t", "set b 0", "check a = 4", "check a = 4", "check a = 5",
                "check a = 5");
        Due.is("run()", x.run(), 2);
        Due.left(x, 1, 2, 5, 1);
        x.answer(1, 5, 3);
        x.answer(1, 4, 1);
        Due.is("run()", x.run(), 0);
        x.answer(1, 6, 4);
        Due.is("run()", x.run(), 1);
        Due.left(x, 1, 1, 8, 4);
    }

    private static void lastToldOfOneTimeCounts() {
        TestText x = Due.of("name a", "test t", "wait a = 7 5", "check a = 7");
        x.answer(1, 7, 2);
        x.answer(1, 8, 2);
        Due.is("run()", x.run(), 1);
        Due.left(x, 1, 1, 3, 5);
        x.answer(1, 7, 2);
        Due.is("run()", x.run(), 0);
        Due.row(x, 0, 3, 2, 0);
        x.answer(1, 9, 3);
        Due.is("run()", x.run(), 1);
        Due.left(x, 1, 1, 4, 3);
    }

    /** The set stands at time 1; answers of time 1 or before do not count behind it. */
    private static void comesWithASetting() {
        String[] text = {"name a", "name b", "test t", "set b 0", "set a 3", "check a = 3", "check a = 3"};
        TestText x = Due.of(text);
        x.answer(1, 9, 0);
        x.answer(1, 9, 1);
        Due.is("run()", x.run(), 0);
        x.answer(1, 9, 2);
        Due.is("run()", x.run(), 1);
        Due.left(x, 1, 1, 6, 2);
        TestText y = Due.of(text);
        y.answer(1, 9, 3);
        Due.is("run()", y.run(), 1);
        Due.left(y, 1, 1, 7, 3);
        TestText z = Due.of(text);
        z.answer(1, 9, 4);
        Due.is("run()", z.run(), 0);
        TestText drawn = Due.of("name a", "test t", "draw a 3 3", "check a = 3", "check a = 9", "set a 4",
                "check a = 4");
        drawn.answer(1, 8, 0);
        drawn.answer(1, 9, 2);
        drawn.answer(1, 9, 3);
        Due.is("run()", drawn.run(), 0);
    }

    private static void keepsValuesApart() {
        TestText x = Due.of("name a", "name b", "name c", "test t", "check b = 2", "check a = 1", "check c = 3");
        x.answer(2, 2, 0);
        x.answer(1, 1, 1);
        Due.is("run()", x.run(), 2);
        Due.left(x, 1, 2, 7, 2);
        x.answer(3, 3, 2);
        Due.is("run()", x.run(), 0);
        TestText y = Due.of("name a", "name b", "test t", "check b = 2");
        y.answer(1, 2, 100000);
        y.answer(1, 2, 0);
        Due.is("run()", y.run(), 2);
    }

    /** Wait i begins at 1001 * (i - 1) + 1, and is done at the last time at which it may be. */
    private static void holdsAtTheLastTime() {
        TestText x = Due.of("name a", "test t", "loop 20", "wait a = 1 1000", "wait a = 2 1000", "wait a = 1 1000",
                "wait a = 2 1000", "wait a = 1 1000", "wait a = 2 1000", "end");
        for (int i = 1; i <= 99; i++) {
            x.answer(1, 2 - i % 2, 1001 * i);
        }
        Due.is("answer(1, 2, 100000)", x.answer(1, 2, 100000), 100);
        Due.is("run()", x.run(), 1);
        Due.is("cases(99, 1)", x.cases(99, 1), 1001 * 99);
        Due.is("cases(100, 1)", x.cases(100, 1), 100000);
        Due.row(x, 101, 8, 101001, 0);
        Due.left(x, 1, 1, 8, 101001);
    }

    private static void worksForTheLastValue() {
        TestText x = Due.of(Due.names(20), "test t", "check vt = 5", "set vt 6", "check vt = 6", "cases vt 7",
                "check vt = 7", "end");
        Due.is("answer(21, 5, 0)", x.answer(21, 5, 0), -1);
        Due.is("answer(20, 5, 0)", x.answer(20, 5, 0), 1);
        Due.is("run()", x.run(), 0);
    }

    private static void worksInAnyOrder() {
        TestText x = Due.of("name a", "test t", "check a = 10", "check a = 11", "check a = 12", "check a = 13",
                "check a = 14");
        for (int time : new int[] {3, 0, 4, 2, 1}) {
            x.answer(1, 10 + time, time);
        }
        Due.is("run()", x.run(), 0);
    }
}
