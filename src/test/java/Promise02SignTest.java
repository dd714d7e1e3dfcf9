/** Promise 2: sign takes up to four signs, the highest byte first; what is no sign is left out. */
public final class Promise02SignTest {
    public static void main(String[] args) {
        takesTheHighestFirst();
        leavesOutWhatIsNone();
        takesAllSigns();
        hasRoomForFourThousand();
        leavesOutWhatHasNoRoom();
        Due.close();
    }

    private static void takesTheHighestFirst() {
        TestText x = new TestText();
        x.sign('t' << 24 | 'e' << 16 | 's' << 8 | 't');
        x.sign(' ' << 24 | 'a' << 16);
        Due.is("read()", Due.reads(x), 0);
        Due.is("verdict(1, 0)", x.verdict(1, 0), -3);
        x.sign('t' << 24 | 's' << 16 | 'e' << 8 | 't');
        x.sign(' ' << 24 | 'a' << 16);
        Due.is("read()", Due.reads(x), Due.THROWS);
    }

    private static void leavesOutWhatIsNone() {
        TestText x = new TestText();
        x.sign(0);
        x.sign('t' << 16 | 'e');
        x.sign(0x80 << 24 | 's' << 16 | 0xFF << 8 | 't');
        x.sign(-1);
        x.sign(' ');
        x.sign(0xC3 << 8 | 'a');
        x.sign(0x80808080);
        Due.is("read()", Due.reads(x), 0);
        Due.is("wrong()", x.wrong(), 0);
        Due.is("verdict(1, 0)", x.verdict(1, 0), -3);
        Due.is("verdict(2, 0)", x.verdict(2, 0), -1);
    }

    /** 1 and 127 are signs, and so words of no line. */
    private static void takesAllSigns() {
        TestText x = new TestText();
        x.sign(1);
        Due.is("read()", Due.reads(x), Due.THROWS);
        x.sign(127);
        Due.is("read()", Due.reads(x), Due.THROWS);
        x.sign(128);
        Due.is("read()", Due.reads(x), 0);
        x.sign(' ');
        Due.is("read()", Due.reads(x), 0);
        x.sign(9);
        Due.is("read()", Due.reads(x), Due.THROWS);
    }

    private static void hasRoomForFourThousand() {
        TestText x = new TestText();
        Due.type(x, "\n".repeat(3999) + "x");
        Due.is("read()", Due.reads(x), Due.THROWS);
        Due.is("wrong()", x.wrong(), 4000);
    }

    private static void leavesOutWhatHasNoRoom() {
        TestText x = new TestText();
        Due.type(x, "\n".repeat(3998));
        x.sign(' ' << 24 | '\n' << 16 | 'x' << 8 | 'x');
        x.sign('x');
        Due.is("read()", Due.reads(x), 0);
        Due.is("wrong()", x.wrong(), 0);
        x.sign('x');
        Due.is("read()", Due.reads(x), Due.THROWS);
        Due.is("wrong()", x.wrong(), 1);
    }
}
