/** The boundary cases of promise 4 and of the terms that say when a line is WRONG, sentence by sentence. */
public final class Edges04WrongTest {
    private static final String HEAD = "name a\ntest t\n";
    /** Every sign that is no letter, no end of a line and no space would do; these stand next to those that are. */
    private static final char[] BESIDE_LETTERS = {'`', '{', '@', 'A', 'Z', '[', 1, 127};

    public static void main(String[] args) {
        firstWrongLine();
        lineBehindTheLastOne();
        ofTheLastRead();
        linesEnd();
        wordsBetweenSpaces();
        linesWithoutWords();
        names();
        numbers();
        values();
        tests();
        namesOfOneKind();
        namesOfValuesAlone();
        Due.close();
    }

    private static void step(String line) {
        Due.right(1, HEAD + line);
    }

    private static void noStep(String line) {
        Due.wrongAt(3, HEAD + line);
    }

    private static void firstWrongLine() {
        Due.sentence(4, "The first WRONG line (from 1 on");
        Due.wrongAt(1, "oh");
        Due.wrongAt(1, "oh\n");
        Due.wrongAt(1, "oh\noh\noh");
        Due.wrongAt(2, "name a\noh\noh");
        Due.wrongAt(2, "\noh");
        Due.wrongAt(3, "name a\n\noh\n\nname b");
        Due.wrongAt(2, "test t\noh\nloop 1");
        Due.wrongAt(3, "test t\nloop 1\noh");
        Due.wrongAt(2001, "\n".repeat(2000) + "oh");
    }

    private static void lineBehindTheLastOne() {
        Due.sentence(4, "of what is not ended the line behind the last one");
        Due.wrongAt(3, "test t\nloop 1");
        Due.wrongAt(3, "test t\nalways");
        Due.wrongAt(4, HEAD + "cases a 1");
        Due.wrongAt(4, "test t\nloop 1\nfault 1 on");
        Due.wrongAt(5, "test t\nloop 1\nloop 1\nend");
        Due.right(2, "test t\nloop 1\nloop 1\nend\nend");
        Due.wrongAt(4, "test t\nloop 1\n ");
        // A sign 10 ends the last line, and begins none.
        Due.wrongAt(3, "test t\nloop 1\n");
    }

    private static void ofTheLastRead() {
        Due.sentence(4, "of the last read(); 0 if none was");
        new Calls().wrong(0).signs("\noh").wrong(0).read(Due.THROWS).wrong(2).wrong(2);
        new Calls().signs("oh").read(Due.THROWS).wrong(1).signs("\noh").wrong(1).read(Due.THROWS).wrong(2);
        new Calls().signs("oh").read(Due.THROWS).wrong(1).signs(HEAD).wrong(1).read(0).wrong(0);
        new Calls().signs("oh").read(Due.THROWS).wrong(1).read(0).wrong(0);
        new Calls().signs("oh").read(Due.THROWS).run(-3).plant(1, true, 1).seed(5).answer(1, 0, 0, -1).wrong(1);
        Calls.having(HEAD).wrong(0).run(0).wrong(0);
    }

    private static void linesEnd() {
        Due.sentence(4, "LINES end by a sign 10");
        Due.right(0, "name a\nname b");
        Due.right(0, "name a\nname b\n");
        for (char c : new char[] {9, 11, 12, 13, 32}) {
            Due.wrongAt(1, "name a" + c + "name b");
        }
        Due.wrongAt(1, "name a\r\nname b");
        Due.wrongAt(2, "name a\nname\nb");
    }

    private static void wordsBetweenSpaces() {
        Due.sentence(4, "words are what stands between spaces");
        step(" set a 1");
        step("set a 1 ");
        step("   set    a     1      ");
        noStep("seta 1");
        noStep("set a1");
        noStep("s et a 1");
        for (char c : new char[] {9, 31, 33, 1, 127}) {
            noStep("set" + c + "a 1");
            noStep("set a" + c + "1");
            noStep(c + "set a 1");
            noStep("set a 1" + c);
            noStep("set a 1 " + c);
        }
    }

    private static void linesWithoutWords() {
        Due.sentence(4, "Lines without words are passed over");
        Due.right(1, "\n\nname a\n \n   \ntest t\n\nset a 1\n\n  ");
        Due.wrongAt(4, "\n \n  \noh");
        noStep("\t");
        noStep("\u0001");
    }

    private static void names() {
        Due.sentence(4, "A NAME is 1 to 8 letters a to z");
        for (String kind : new String[] {"name ", "test "}) {
            Due.wrongAt(1, kind);
            Due.right(0, kind + "b");
            Due.right(0, kind + "bc");
            Due.right(0, kind + "bcdefgh");
            Due.right(0, kind + "abcdefgh");
            Due.right(0, kind + "zzzzzzzz");
            Due.wrongAt(1, kind + "abcdefghi");
            Due.wrongAt(1, kind + "zzzzzzzzz");
            Due.wrongAt(1, kind + "aaaaaaaaaaaaaaaaaaaaaaaaaaaaaaaaa");
            Due.right(0, kind + "a");
            Due.right(0, kind + "z");
            for (char c : BESIDE_LETTERS) {
                Due.wrongAt(1, kind + c);
                Due.wrongAt(1, kind + "a" + c);
                Due.wrongAt(1, kind + c + "a");
                Due.wrongAt(1, kind + "abcdefg" + c);
            }
            Due.wrongAt(1, kind + "1");
            Due.wrongAt(1, kind + "a1");
            Due.wrongAt(1, kind + "-");
        }
        // Names that differ in one letter, or in length alone, are others.
        Due.right(0, "name a\nname aa\nname aaa\nname aaaaaaaa\nname aaaaaaab\nname baaaaaaa\ntest z\ntest zz");
        Due.right(1, "name aaaaaaaa\nname aaaaaaab\ntest t\nset aaaaaaab 1");
        Due.wrongAt(3, "name aaaaaaaa\ntest t\nset aaaaaaaaa 1");
    }

    private static void numbers() {
        Due.sentence(4, "a NUMBER 1 to 6 digits, perhaps - before them");
        for (String number : new String[] {"0", "9", "-0", "-9", "00000", "12345", "-12345", "000000", "999999",
            "-999999", "-000000", "099999"}) {
            step("set a " + number);
            step("check a = " + number);
            step("wait a = " + number + " 0");
            Due.right(1, HEAD + "cases a " + number + "\nend");
        }
        step("draw a -999999 999999");
        for (String none : new String[] {"", "-", "--", "--1", "-1-", "1-", "1-1", "+1", "0000000", "0999999",
            "1000000", "-1000000", "-0000000", "99999999999999999999", "/", ":", "1/", "1:", "1a", "a1", "a", "1.0"}) {
            noStep("set a " + none);
            noStep("check a = " + none);
            noStep("wait a = " + none + " 0");
            noStep("draw a 0 " + none);
            noStep("draw a " + none + " 999999");
            noStep("cases a " + none);
        }
        // - 1 are two words.
        noStep("set a - 1");
        Calls.of("name a", "test t", "set a -999999", "set a 999999", "set a -0", "set a 000001", "set a -000001")
                .run(0).row(0, 3, 0, -999999).row(1, 4, 1, 999999).row(2, 5, 2, 0).row(3, 6, 3, 1).row(4, 7, 4, -1);
    }

    private static void values() {
        Due.sentence(4, "name NAME: a value, numbered from 1 on, at most 20.");
        Due.wrongAt(1, "name");
        Due.wrongAt(1, "name a b");
        Due.wrongAt(1, "name a a");
        Due.wrongAt(1, "names a");
        Due.wrongAt(1, "nam a");
        Due.wrongAt(1, "Name a");
        Due.right(0, Due.names(19));
        Due.right(0, Due.names(20));
        Due.wrongAt(21, Due.names(21));
        Due.wrongAt(22, Due.names(20) + "test t\nname w");
        Calls.of("name a", "test t", "set a 1").answer(0, 0, 0, -1).answer(1, 0, 0, 1).answer(2, 0, 0, -1)
                .cover(1, 0, -1).cover(1, 1, 1).cover(1, 2, -1);
        Calls.having(Due.names(20) + "test t\nset va 1\nset vt 1\ntest u\nset vt 1").answer(20, 0, 0, 1)
                .answer(21, 0, 0, -1).cover(1, 1, 1).cover(1, 2, 0).cover(1, 19, 0).cover(1, 20, 2)
                .cover(1, 21, -1);
        // The last value is one like all others.
        Calls.having(Due.names(20) + "test t\ncheck vt = 5\nset vt 6\ncheck vt = 6\ndraw vt 7 7\nwait vt = 7 0\n"
                + "cases vt 8\ncheck vt = 8\nend\ntest u\ncheck vt = 6").answer(20, 5, 0, 1).run(1).left(1, 0, 0, 8)
                .left(2, 1, 31, 0);
    }

    private static String tests(int n) {
        StringBuilder tests = new StringBuilder();
        for (int i = 0; i < n; i++) {
            tests.append("test t").append((char) ('a' + i)).append('\n');
        }
        return tests.toString();
    }

    private static void tests() {
        Due.sentence(4, "test NAME: a test, numbered from 1 on, at most 12");
        Due.wrongAt(1, "test");
        Due.wrongAt(1, "test a b");
        Due.wrongAt(1, "tests a");
        Due.wrongAt(1, "tes a");
        Due.wrongAt(1, "Test a");
        Due.right(0, tests(11));
        Due.right(0, tests(12));
        Due.wrongAt(13, tests(13));
        Calls.having(tests(12)).run(0).verdict(0, 0, -1).left(1, 0, 0, 0).left(12, 0, 0, 0).verdict(13, 0, -1);
        Due.sentence(4, "what follows are its steps, up to the next one");
        Calls.of("name a", "test t", "set a 1", "set a 2", "test u", "test v", "set a 3").run(0).left(1, 0, 0, 2)
                .left(2, 0, 0, 0).left(3, 0, 0, 1).cover(0, 1, 2).cover(0, 2, 0).cover(0, 3, 1);
    }

    private static void namesOfOneKind() {
        Due.sentence(4, "Names of both are of one kind, none is there twice");
        Due.wrongAt(2, "name a\nname a");
        Due.wrongAt(2, "test a\ntest a");
        Due.wrongAt(2, "name a\ntest a");
        Due.wrongAt(2, "test a\nname a");
        Due.wrongAt(3, "name a\nname b\nname a");
        Due.wrongAt(3, "name abcdefgh\ntest b\nname abcdefgh");
        Due.wrongAt(21, Due.names(20) + "test vt");
        Due.wrongAt(21, Due.names(20) + "test va");
        Due.wrongAt(13, tests(12) + "name tl");
        Due.wrongAt(13, tests(12) + "name ta");
        Due.right(0, "name a\nname b\ntest c\ntest d");
    }

    private static void namesOfValuesAlone() {
        Due.sentence(4, "steps take names of values alone; words of lines may be names, too");
        for (String line : new String[] {"set NAME 1", "draw NAME 1 2", "wait NAME = 1 1", "check NAME = 1"}) {
            step(line.replace("NAME", "a"));
            noStep(line.replace("NAME", "t"));
            noStep(line.replace("NAME", "b"));
            noStep(line.replace("NAME", "b") + "\nname b");
            noStep(line.replace("NAME ", ""));
        }
        Due.right(1, HEAD + "cases a 1\nend");
        noStep("cases t 1\nend");
        noStep("cases b 1\nend");
        for (String word : new String[] {"name", "test", "set", "draw", "wait", "check", "fault", "on", "off", "loop",
            "end", "cases", "always"}) {
            Due.right(1, "name " + word + "\ntest t\nset " + word + " 1");
            Due.right(2, "name a\ntest " + word + "\nloop 1\nset a 1\nend");
            Due.wrongAt(2, "name " + word + "\ntest " + word);
        }
    }
}
