/** The boundary cases of promise 2, sentence by sentence. */
public final class Edges02SignTest {
    private static final int MOST_SIGNS = 4000;

    public static void main(String[] args) {
        upToFour();
        highestFirst();
        thoseThatAreNone();
        atMostFourThousand();
        noRoom();
        Due.close();
    }

    private static void upToFour() {
        Due.sentence(2, "Up to four signs more of the text");
        new Calls().sign(0).read(0).wrong(0);
        // Lines that end tell how many signs were taken: the word behind them stands in the next one.
        new Calls().sign(0x0A).signs("x").read(Due.THROWS).wrong(2);
        new Calls().sign(0x0A0A).signs("x").read(Due.THROWS).wrong(3);
        new Calls().sign(0x0A0A0A).signs("x").read(Due.THROWS).wrong(4);
        new Calls().sign(0x0A0A0A0A).signs("x").read(Due.THROWS).wrong(5);
        new Calls().sign(0x0A000A00).sign(0x000A000A).signs("x").read(Due.THROWS).wrong(5);
    }

    private static void highestFirst() {
        Due.sentence(2, "the bytes of c, the highest first");
        new Calls().sign(0x0A0A0A78).read(Due.THROWS).wrong(4);
        new Calls().sign(0x0A0A780A).read(Due.THROWS).wrong(3);
        new Calls().sign(0x0A780A0A).read(Due.THROWS).wrong(2);
        new Calls().sign(0x780A0A0A).read(Due.THROWS).wrong(1);
        new Calls().sign('t' << 24 | 'e' << 16 | 's' << 8 | 't').sign(' ' << 24 | 'a' << 16).read(0)
                .verdict(1, 0, -3);
        new Calls().sign('t' << 24 | 's' << 16 | 'e' << 8 | 't').sign(' ' << 24 | 'a' << 16).read(Due.THROWS);
    }

    private static void thoseThatAreNone() {
        Due.sentence(2, "those that are none (0, above 127)");
        for (int shift = 0; shift < 32; shift += 8) {
            for (int none : new int[] {0, 128, 129, 138, 160, 255}) {
                new Calls().sign(none << shift).read(0).wrong(0);
                new Calls().signs("te").sign(none << shift).signs("st a").read(0).run(0);
            }
            for (int one : new int[] {1, 2, 9, 11, 31, 33, 126, 127}) {
                new Calls().sign(one << shift).read(Due.THROWS).wrong(1);
                new Calls().signs("te").sign(one << shift).signs("st a").read(Due.THROWS).wrong(1);
            }
        }
        new Calls().sign(-1).sign(Integer.MIN_VALUE).sign(0x80808080).read(0).wrong(0);
        // Its highest byte is 127, a sign.
        new Calls().sign(Integer.MAX_VALUE).read(Due.THROWS).wrong(1);
        new Calls().sign(0x80 << 24 | 't' << 16 | 0xFF << 8 | 'e').sign('s' << 24 | 0x80 << 8 | 't').signs(" a")
                .read(0).run(0);
        new Calls().sign('t' << 24 | 0x80 << 16 | 'e').sign(0xFF << 24 | 's' << 16 | 't' << 8).signs(" a")
                .read(0).run(0);
    }

    /** Ends of lines up to here, so that a word that is taken stands in the line of that number. */
    private static Calls full(int signs) {
        Calls x = new Calls().uncounted();
        for (int i = 0; i < signs; i++) {
            x.sign(10);
        }
        return x;
    }

    /** 512 calls take 2048 signs; that the bound holds beyond them is more than is promised. */
    private static void atMostFourThousand() {
        Due.sentence(2, "THE TEXT has at most 4000 signs (1 .. 127).");
        new Calls().signs("\n".repeat(2000) + "x").read(Due.THROWS).wrong(2001);
        full(MOST_SIGNS - 2).signs("x").read(Due.THROWS).wrong(MOST_SIGNS - 1);
        full(MOST_SIGNS - 1).signs("x").read(Due.THROWS).wrong(MOST_SIGNS);
        full(MOST_SIGNS).signs("x").read(0).wrong(0);
        full(MOST_SIGNS + 1).signs("x").read(0).wrong(0);
    }

    private static void noRoom() {
        Due.sentence(2, "or for which there is no room, are left out");
        full(MOST_SIGNS - 4).signs("\n\n\nx").read(Due.THROWS).wrong(MOST_SIGNS);
        full(MOST_SIGNS - 3).signs("\n\n\nx").read(0).wrong(0);
        full(MOST_SIGNS - 2).signs("\n\nxx").read(0).wrong(0);
        full(MOST_SIGNS - 1).signs("\nxxx").read(0).wrong(0);
        full(MOST_SIGNS).signs("xxxx").signs("xxxx").read(0).wrong(0);
        // What is no sign takes no room.
        full(MOST_SIGNS - 1).sign(0).sign(0x80FF8000).sign('x').read(Due.THROWS).wrong(MOST_SIGNS);
        // What was left out is not kept for the next text, which has its room again.
        full(MOST_SIGNS).signs("x").read(0).read(0).signs("\n\nx").read(Due.THROWS).wrong(3);
    }
}
