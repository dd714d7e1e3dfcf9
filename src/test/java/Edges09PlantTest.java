/** The boundary cases of promise 9, sentence by sentence. */
public final class Edges09PlantTest {
    public static void main(String[] args) {
        howManyAre();
        thereIsNone();
        fromOutside();
        Due.close();
    }

    private static void howManyAre() {
        Due.sentence(9, "A fault (1 .. 8) is planted from outside, or taken back: how many are.");
        Calls x = new Calls().plant(1, false, 0).plant(8, false, 0);
        for (int f = 1; f <= 8; f++) {
            x.plant(f, true, f).plant(f, true, f);
        }
        for (int f = 8; f >= 1; f--) {
            x.plant(f, false, f - 1).plant(f, false, f - 1);
        }
        new Calls().plant(8, true, 1).plant(1, true, 2).plant(8, false, 1).plant(1, false, 0);
    }

    private static void thereIsNone() {
        Due.sentence(9, "-1 there is none.");
        Calls x = new Calls().plant(1, true, 1).plant(8, true, 2);
        for (int f : new int[] {0, 9, -1, -8, 31, 32, 33, 40, 64, 65, 256, 257, Integer.MIN_VALUE,
            Integer.MAX_VALUE}) {
            x.plant(f, true, -1).plant(f, false, -1);
        }
        x.plant(1, true, 2).plant(8, true, 2).plant(2, false, 2);
    }

    private static void fromOutside() {
        Due.sentence(9, "is planted from outside, or taken back");
        String text = "test t\nfault 1 on\nfault 8 on\ntest u\nfault 8 on\nfault 1 off";
        Calls x = Calls.having(text).run(0).undone(1, 8, 8);
        x.plant(1, true, 1).undone(1, 8, 8).run(0).undone(8, 8);
        x.plant(8, true, 2).run(0).undone().plant(1, false, 1).run(0).undone(1).plant(8, false, 0).run(0)
                .undone(1, 8, 8);
        // What a test does to a fault from outside is for that test alone, and plants nothing.
        x.plant(1, true, 1).run(0).plant(1, true, 1).plant(8, true, 2);
    }
}
