/** Promise 9: faults planted from outside, and taken back. */
public final class Promise09PlantTest {
    public static void main(String[] args) {
        counts();
        refuses();
        isThereInEachTest();
        Due.close();
    }

    private static void counts() {
        TestText x = new TestText();
        for (int f = 1; f <= 8; f++) {
            Due.is("plant(" + f + ", true)", x.plant(f, true), f);
            Due.is("plant(" + f + ", true)", x.plant(f, true), f);
        }
        Due.is("plant(3, false)", x.plant(3, false), 7);
        Due.is("plant(3, false)", x.plant(3, false), 7);
        Due.is("plant(8, false)", x.plant(8, false), 6);
        Due.is("plant(1, false)", x.plant(1, false), 5);
        Due.is("plant(3, true)", x.plant(3, true), 6);
    }

    private static void refuses() {
        TestText x = new TestText();
        x.plant(1, true);
        for (int f : new int[] {0, 9, -1, 32, 33, 40, Integer.MAX_VALUE, Integer.MIN_VALUE}) {
            Due.is("plant(" + f + ", true)", x.plant(f, true), -1);
            Due.is("plant(" + f + ", false)", x.plant(f, false), -1);
        }
        Due.is("plant(2, true)", x.plant(2, true), 2);
    }

    /** A fault that is from outside is not UNDONE; one that was taken back is. */
    private static void isThereInEachTest() {
        TestText x = Due.of("test t", "fault 2 on", "fault 3 off", "test u", "fault 3 on", "fault 2 on");
        x.plant(3, true);
        x.run();
        Due.is("undone(0)", x.undone(0), 2);
        Due.is("undone(1)", x.undone(1), 2);
        Due.is("undone(2)", x.undone(2), 0);
        Due.is("plant(3, true)", x.plant(3, true), 1);
        x.plant(2, true);
        x.run();
        Due.is("undone(0)", x.undone(0), 0);
        x.plant(2, false);
        x.plant(3, false);
        x.run();
        Due.is("undone(0)", x.undone(0), 2);
        Due.is("undone(1)", x.undone(1), 2);
        Due.is("undone(2)", x.undone(2), 3);
        Due.is("undone(3)", x.undone(3), 0);
    }
}
