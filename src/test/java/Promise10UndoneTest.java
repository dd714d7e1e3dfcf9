/** Promise 10: the faults that were UNDONE in the last RUN. */
public final class Promise10UndoneTest {
    public static void main(String[] args) {
        tellsThemByTheirNumbers();
        tellsEachOnce();
        looksBehindAlways();
        tellsThemHoweverItIsLeft();
        tellsAllThatThereCanBe();
        tellsTheLastRun();
        Due.close();
    }

    private static void undone(TestText x, int... faults) {
        for (int i = 0; i < faults.length; i++) {
            Due.is("undone(" + i + ")", x.undone(i), faults[i]);
        }
        Due.is("undone(" + faults.length + ")", x.undone(faults.length), 0);
        Due.is("undone(-1)", x.undone(-1), 0);
        Due.is("undone(100)", x.undone(100), 0);
        Due.is("undone(MAX)", x.undone(Integer.MAX_VALUE), 0);
        Due.is("undone(MIN)", x.undone(Integer.MIN_VALUE), 0);
    }

    private static void tellsThemByTheirNumbers() {
        TestText x = Due.of("test t", "fault 8 on", "fault 1 on", "fault 5 on", "fault 4 on", "fault 4 off",
                "test u", "test v", "fault 7 on", "fault 2 on", "fault 6 off");
        undone(x);
        x.run();
        undone(x, 1, 5, 8, 2, 7);
    }

    private static void tellsEachOnce() {
        TestText x = Due.of("test t", "fault 1 on", "fault 1 on", "fault 2 on", "fault 2 off", "fault 2 off",
                "loop 4", "fault 3 on", "end");
        x.run();
        undone(x, 1, 3);
        x.plant(1, true);
        x.run();
        undone(x, 3);
    }

    private static void looksBehindAlways() {
        TestText x = Due.of("test t", "fault 1 on", "fault 2 on", "always", "fault 1 off", "fault 3 on", "end");
        x.run();
        undone(x, 2, 3);
    }

    private static void tellsThemHoweverItIsLeft() {
        TestText x = Due.of("name a", "test t", "fault 1 on", "check a = 1", "fault 2 on", "test u", "fault 3 on",
                "always", "fault 4 on", "check a = 1", "fault 3 off", "end");
        x.run();
        undone(x, 1, 3, 4);
    }

    private static void tellsAllThatThereCanBe() {
        StringBuilder text = new StringBuilder();
        int[] due = new int[96];
        for (int t = 0; t < 12; t++) {
            text.append("test t").append((char) ('a' + t)).append('\n');
            for (int f = 8; f >= 1; f--) {
                text.append("fault ").append(f).append(" on\n");
                due[t * 8 + f - 1] = f;
            }
        }
        TestText x = Due.of(text.toString().split("\n"));
        x.run();
        undone(x, due);
    }

    private static void tellsTheLastRun() {
        TestText x = Due.of("name a", "test t", "check a = 1", "fault 1 on");
        x.run();
        undone(x);
        x.answer(1, 1, 0);
        x.run();
        undone(x, 1);
        x.run();
        undone(x, 1);
        x.plant(1, true);
        undone(x, 1);
        x.run();
        undone(x);
    }
}
