/** The boundary cases of promise 1, sentence by sentence. */
public final class Edges01NewObjectTest {
    public static void main(String[] args) {
        noText();
        noTests();
        noAnswers();
        seedOne();
        Due.close();
    }

    private static void noText() {
        Due.sentence(1, "No text");
        new Calls().read(0).wrong(0).run(-3);
        new Calls().wrong(0);
        // The first sign is the first of the text, the first line its line 1.
        new Calls().signs("x").read(Due.THROWS).wrong(1);
        new Calls().signs("\nx").read(Due.THROWS).wrong(2);
    }

    private static void noTests() {
        Due.sentence(1, "no tests");
        new Calls().run(-3).verdict(0, 0, -1).verdict(1, 0, -1).ended(0, -1).ended(1, -1).cover(0, 0, -1)
                .cover(0, 1, -1).cover(1, 0, -1).cover(1, 1, -1).cover(2, 1, 0).leastAt(0, 0).differ(0, 0, -2)
                .differ(1, 1, -2).shorter(-3).cases(0, 0, -1).undoneAt(0, 0).plant(1, false, 0);
    }

    private static void noAnswers() {
        Due.sentence(1, "no answers");
        new Calls().answer(0, 0, 0, -1).answer(1, 0, 0, -1);
        Calls.of("name a", "test t", "check a = 0").run(2).answer(1, 0, 0, 1).run(0);
    }

    /** The first draw of 0 .. 65535 is the same for seeds near 1, the second and third are not. */
    private static void seedOne() {
        Due.sentence(1, "SEED 1");
        Calls x = Calls.of("name a", "test t", "draw a 0 65535", "draw a 0 65535", "draw a 0 65535");
        long first = 25173 + 13849;
        long second = first * 25173 + 13849;
        long third = (second * 25173 + 13849) % (1L << 32);
        x.run(0).cases(0, 2, 0).cases(1, 2, (int) (second / 65536)).cases(2, 2, (int) (third / 65536));
        x.seed(1).run(0).differ(1, 2, -1);
        x.seed(0).run(0).differ(1, 3, 1);
        x.seed(2).run(0).differ(1, 4, 1);
    }
}
