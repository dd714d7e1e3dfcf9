/** Promise 4: wrong tells the first WRONG line: each way in which a line is wrong, and the edges beside it. */
public final class Promise04WrongTest {
    private static final String HEAD = "name a\ntest t\n";

    public static void main(String[] args) {
        tellsTheLastRead();
        tellsTheFirstLine();
        tellsWhatIsNotEnded();
        knowsNames();
        knowsNumbers();
        knowsLines();
        knowsSet();
        knowsDraw();
        knowsWaitAndCheck();
        knowsFault();
        knowsLoop();
        knowsCases();
        knowsAlways();
        knowsDepth();
        knowsHowMany();
        Due.close();
    }

    private static void step(String line) {
        Due.right(1, HEAD + line);
    }

    private static void block(String line) {
        Due.right(1, HEAD + line + "\nend");
    }

    private static void bad(String line) {
        Due.wrongAt(3, HEAD + line);
        Due.wrongAt(3, HEAD + line + "\nend\n");
    }

    private static void tellsTheLastRead() {
        TestText x = new TestText();
        Due.is("wrong()", x.wrong(), 0);
        Due.type(x, "name a\noh");
        Due.is("read()", Due.reads(x), Due.THROWS);
        Due.is("wrong()", x.wrong(), 2);
        Due.type(x, "name a\n");
        Due.is("wrong()", x.wrong(), 2);
        x.run();
        Due.is("wrong()", x.wrong(), 2);
        Due.is("read()", Due.reads(x), 0);
        Due.is("wrong()", x.wrong(), 0);
    }

    private static void tellsTheFirstLine() {
        Due.wrongAt(1, "oh\nname a\noh");
        Due.wrongAt(3, "\n  \noh\noh");
        Due.wrongAt(4, "test t\nloop 1\n\noh\nend");
        Due.wrongAt(2, "test t\noh\nloop 1\nloop 1");
    }

    private static void tellsWhatIsNotEnded() {
        Due.wrongAt(3, "test t\nloop 1");
        Due.wrongAt(3, "test t\nloop 1\n");
        Due.wrongAt(4, "test t\nloop 1\n\n");
        Due.wrongAt(5, "test t\nloop 1\nloop 1\nend");
        Due.wrongAt(3, "test t\nalways");
        Due.wrongAt(4, HEAD + "cases a 1");
        Due.wrongAt(3, "test t\nloop 1\ntest u");
        Due.wrongAt(3, "test t\nalways\ntest u\nend");
        Due.wrongAt(2, "test t\nend");
        Due.wrongAt(4, "test t\nloop 1\nend\nend");
        Due.wrongAt(1, "end");
        Due.wrongAt(4, "test t\nloop 1\nend\nend\n");
        Due.wrongAt(5, "test t\nloop 1\nend\ntest u\nend");
    }

    private static void knowsNames() {
        Due.right(0, "name a");
        Due.right(0, "name abcdefgh");
        Due.right(0, "name zzzzzzzz\nname z\nname zz");
        Due.right(0, "test abcdefgh");
        Due.right(0, "name azaz\ntest zaza");
        for (String none : new String[] {"abcdefghi", "A", "aB", "1", "a1", "-", "`", "{", "a-b", "\u0001", "a\t"}) {
            Due.wrongAt(1, "name " + none);
            Due.wrongAt(1, "test " + none);
        }
        Due.wrongAt(1, "name");
        Due.wrongAt(1, "test");
        Due.wrongAt(1, "name a b");
        Due.wrongAt(1, "test a b");
        Due.wrongAt(2, "name a\nname a");
        Due.wrongAt(2, "test a\ntest a");
        Due.wrongAt(2, "name a\ntest a");
        Due.wrongAt(2, "test a\nname a");
        Due.wrongAt(3, HEAD + "set t 1");
        Due.wrongAt(3, HEAD + "set b 1");
        Due.wrongAt(3, HEAD + "set aa 1\nname aa");
        Due.wrongAt(3, HEAD + "set aaaaaaaaa 1");
    }

    private static void knowsNumbers() {
        for (String number : new String[] {"0", "-0", "7", "-7", "000000", "000007", "-000007", "999999", "-999999"}) {
            step("set a " + number);
        }
        for (String none : new String[] {"", "-", "--1", "+1", "1-", "1000000", "-1000000", "0000000", "1a", "a",
            "1.0", ":", "/", "1 2"}) {
            bad("set a " + none);
            bad("check a = " + none);
        }
    }

    private static void knowsLines() {
        for (String none : new String[] {"oh", "Set a 1", "sets a 1", "se a 1", "set", "\tset a 1", "set\ta 1",
            "test", "name", "end", "END", "end x", "-", "1", "a"}) {
            Due.wrongAt(3, HEAD + none);
        }
        for (String early : new String[] {"set a 1", "draw a 1 2", "wait a = 1 1", "check a = 1", "fault 1 on",
            "loop 1", "cases a 1", "always", "end"}) {
            Due.wrongAt(2, "name a\n" + early + "\ntest t\nend");
        }
        Due.wrongAt(4, HEAD + "loop 1\nend end");
    }

    private static void knowsSet() {
        step("set a 1");
        bad("set a");
        bad("set a 1 1");
        bad("set 1 a");
    }

    private static void knowsDraw() {
        step("draw a 1 1");
        step("draw a -999999 999999");
        step("draw a -2 -1");
        bad("draw a 2 1");
        bad("draw a -1 -2");
        bad("draw a 1");
        bad("draw a 1 2 3");
        bad("draw a x 2");
        bad("draw a 1 x");
        bad("draw b 1 2");
        bad("draw a -1000000 2");
        bad("draw a 1 1000000");
    }

    private static void knowsWaitAndCheck() {
        for (String op : new String[] {"=", "<", ">", "!"}) {
            step("check a " + op + " 1");
            step("wait a " + op + " 1 5");
        }
        for (String none : new String[] {"==", "?", "<=", "!=", "1", "a", ";"}) {
            bad("check a " + none + " 1");
            bad("wait a " + none + " 1 5");
        }
        step("wait a = 1 0");
        step("wait a = 1 1000");
        step("wait a = -999999 -0");
        bad("wait a = 1 1001");
        bad("wait a = 1 -1");
        bad("wait a = 1");
        bad("wait a = 1 1 1");
        bad("wait a = 1 x");
        bad("wait a = x 1");
        bad("wait b = 1 1");
        bad("wait a 1 1");
        bad("check a =");
        bad("check a = 1 1");
        bad("check b = 1");
        bad("check a=1");
        bad("check = a 1");
    }

    private static void knowsFault() {
        step("fault 1 on");
        step("fault 8 off");
        step("fault 08 on");
        bad("fault 0 on");
        bad("fault 9 on");
        bad("fault -1 off");
        bad("fault x on");
        bad("fault 1");
        bad("fault 1 On");
        bad("fault 1 of");
        bad("fault 1 offf");
        bad("fault on 1");
        bad("fault 1 on off");
    }

    private static void knowsLoop() {
        block("loop 1");
        block("loop 20");
        block("loop 000020");
        bad("loop 0");
        bad("loop 21");
        bad("loop -1");
        bad("loop x");
        bad("loop");
        bad("loop 1 1");
    }

    private static void knowsCases() {
        block("cases a 1");
        block("cases a 1 2 3 4 5 6 7 8 9 10");
        block("cases a 1 1");
        bad("cases a");
        bad("cases");
        bad("cases a 1 2 3 4 5 6 7 8 9 10 11");
        bad("cases a 1 2 3 4 5 6 7 8 9 10 11 12 13 14");
        bad("cases a 1 x");
        bad("cases a 1 2 3 4 5 6 7 8 9 x");
        bad("cases a x 1");
        bad("cases b 1");
        bad("cases a 1000000");
    }

    private static void knowsAlways() {
        block("always");
        bad("always x");
        Due.wrongAt(5, HEAD + "always\nend\nalways\nend");
        Due.wrongAt(4, HEAD + "always\nalways\nend\nend");
        Due.wrongAt(4, HEAD + "loop 1\nalways\nend\nend");
        Due.wrongAt(4, HEAD + "cases a 1\nalways\nend\nend");
        Due.wrongAt(5, HEAD + "always\nloop 1\nalways\nend\nend\nend");
        Due.right(2, HEAD + "always\nend\ntest u\nalways\nend");
        Due.right(3, HEAD + "loop 1\nend\nalways\nend\nloop 1\nend");
    }

    private static void knowsDepth() {
        Due.right(8, "test t\n" + Due.many(8, "loop 1") + Due.many(8, "end"));
        Due.wrongAt(10, "test t\n" + Due.many(9, "loop 1") + Due.many(9, "end"));
        Due.right(8, HEAD + Due.many(8, "cases a 1") + Due.many(8, "end"));
        Due.wrongAt(11, HEAD + Due.many(9, "cases a 1") + Due.many(9, "end"));
        Due.wrongAt(11, HEAD + Due.many(4, "cases a 1\nloop 2") + Due.many(1, "cases a 1") + Due.many(9, "end"));
        Due.right(8, "test t\nalways\n" + Due.many(7, "loop 1") + Due.many(8, "end"));
        Due.wrongAt(10, "test t\nalways\n" + Due.many(8, "loop 1") + Due.many(9, "end"));
        Due.right(17, "test t\n" + Due.many(8, "loop 1") + Due.many(8, "end")
                + Due.many(8, "loop 1") + "fault 1 on\n" + Due.many(8, "end"));
        Due.right(9, HEAD + Due.many(8, "loop 1") + "set a 1\n" + Due.many(8, "end"));
    }

    private static void knowsHowMany() {
        Due.right(0, Due.names(20));
        Due.right(1, Due.names(20) + "test t\nset vt 1");
        Due.wrongAt(21, Due.names(20) + "name w");
        StringBuilder tests = new StringBuilder();
        for (char c = 'a'; c < 'a' + 12; c++) {
            tests.append("test t").append(c).append('\n');
        }
        Due.right(0, tests.toString());
        Due.wrongAt(13, tests + "test u");
        Due.right(100, "test t\n" + Due.many(100, "fault 1 on"));
        Due.wrongAt(102, "test t\n" + Due.many(101, "fault 1 on"));
        Due.wrongAt(102, "test t\n" + Due.many(100, "fault 1 on") + "loop 1\nend\n");
        Due.wrongAt(102, "test t\n" + Due.many(100, "fault 1 on") + "always\nend\n");
        Due.right(100, "test t\n" + Due.many(98, "fault 1 on") + "loop 1\nfault 1 on\nend\n");
        Due.right(101, "test t\n" + Due.many(100, "fault 1 on") + "test u\nfault 1 on\n");
    }
}
