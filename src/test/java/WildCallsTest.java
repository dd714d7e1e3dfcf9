import java.util.Random;
import java.util.function.IntSupplier;

/**
 * At most 512 calls of an object, in any order and of any arguments, on texts with lines that are not as they
 * should be: no call but read() throws, read() throws IllegalStateException alone, and each answer is SlowModel's.
 */
public final class WildCallsTest {
    private static final int MOST_CALLS = 512;
    private static final int THROWN = -98;
    private static final String[] STEPS = {"set a 1", "set b -2", "draw a 1 6", "draw b -3 3", "wait a = 1 5",
        "wait b > 0 30", "check a ! 7", "check b < 9", "check a > 0", "fault 1 on", "fault 2 off", "fault 3 on", ""};
    private static final String[] OPENING = {"loop 2", "loop 20", "cases a 1 2", "cases b 0 3 -1", "always"};
    private static final String[] WORDS = {"name", "test", "set", "draw", "wait", "check", "fault", "loop", "cases",
        "always", "end", "on", "off", "a", "b", "t", "A", "abcdefgh", "abcdefghi", "=", "<", ">", "!", "==", "?", "0",
        "1", "-0", "-1", "8", "9", "10", "20", "21", "007", "1000", "1001", "999999", "-999999", "1000000", "0000001",
        "+1", "-", "--1", "1-", "a1", "\t", "\r", "\u0001", "\u007f", "~"};
    private static final long[] WILD = {0, 1, -1, 2, 3, 4, 7, 8, 9, 12, 13, 20, 21, 31, 32, 33, 63, 64, 99, 100, 127,
        128, 199, 200, 255, 256, 1000, 1999, 2000, 2001, 99999, 100000, 100001, 999999, 1000000, -999999, -1000000,
        Integer.MAX_VALUE, Integer.MIN_VALUE, Integer.MIN_VALUE + 1, 1L << 31, 1L << 32, (1L << 32) + 1,
        Long.MAX_VALUE, Long.MIN_VALUE, Long.MIN_VALUE + 1};

    private final Random random;
    private final TestText x = new TestText();
    private final SlowModel model = new SlowModel();
    private final int number;
    /** One of so many lines has words that are drawn. */
    private final int wildness;
    private int made = 0;

    private WildCallsTest(int number) {
        this.number = number;
        random = new Random(number);
        wildness = 3 + random.nextInt(random.nextInt(3) == 0 ? 10 : 100);
    }

    public static void main(String[] args) {
        int objects = args.length > 0 ? Integer.parseInt(args[0]) : 4000;
        for (int i = 0; i < objects; i++) {
            new WildCallsTest(i).callAll();
        }
        Due.close();
    }

    private void callAll() {
        while (made < MOST_CALLS) {
            int kind = random.nextInt(1400);
            if (kind < 14) {
                readAText();
            } else if (kind < 16) {
                sign(random.nextInt());
            } else {
                // Seldom 0, as nothing but an empty text is read then.
                ask(kind < 18 ? 0 : 1 + kind % 13);
            }
        }
    }

    private int wild() {
        return (int) wildLong();
    }

    private long wildLong() {
        switch (random.nextInt(6)) {
            case 0:
                return WILD[random.nextInt(WILD.length)];
            case 1:
                return random.nextLong() >> random.nextInt(64);
            default:
                return random.nextInt(5);
        }
    }

    private void readAText() {
        String text = text();
        for (int i = 0; i < text.length() && made < MOST_CALLS - 1; i += 4) {
            int c = 0;
            for (int k = i; k < i + 4; k++) {
                c = c << 8 | (k < text.length() ? text.charAt(k) : 0);
            }
            sign(c);
        }
        ask(0);
    }

    private String text() {
        StringBuilder text = new StringBuilder("name a\nname b\n");
        int open = 0;
        int lines = 3 + random.nextInt(30);
        for (int i = 0; i < lines; i++) {
            String line = STEPS[random.nextInt(STEPS.length)];
            if (i == 0 || open == 0 && random.nextInt(6) == 0) {
                line = "test t" + (char) ('a' + i % 26);
            } else if (open > 0 && random.nextInt(3) == 0) {
                line = "end";
                open--;
            } else if (random.nextInt(4) == 0) {
                line = OPENING[random.nextInt(open == 0 ? OPENING.length : OPENING.length - 1)];
                open++;
            }
            text.append(random.nextInt(wildness) == 0 ? wild(line) : line).append('\n');
        }
        return text + "end\n".repeat(open);
    }

    private String wild(String right) {
        String[] words = right.split(" ");
        for (int many = random.nextInt(3); many > 0; many--) {
            words[random.nextInt(words.length)] = WORDS[random.nextInt(WORDS.length)];
        }
        String line = String.join(" ".repeat(1 + random.nextInt(2)), words);
        return random.nextInt(4) == 0 ? line + " " + WORDS[random.nextInt(WORDS.length)] : line;
    }

    private void sign(int c) {
        same("sign(" + c + ")", () -> {
            x.sign(c);
            return 0;
        }, 0);
        model.sign(c);
    }

    private void ask(int kind) {
        int a = wild();
        int b = wild();
        long v = wildLong();
        long t = wildLong();
        boolean on = random.nextBoolean();
        switch (kind) {
            case 0 -> same("read()", () -> Due.reads(x), model.read());
            case 1 -> same("wrong()", x::wrong, model.wrong());
            case 2 -> same("answer(" + a + ", " + v + ", " + t + ")", () -> x.answer(a, v, t), model.answer(a, v, t));
            case 3 -> same("run()", x::run, model.run());
            case 4 -> same("verdict(" + a + ", " + b + ")", () -> x.verdict(a, b), model.verdict(a, b));
            case 5 -> same("ended(" + a + ")", () -> x.ended(a), model.ended(a));
            case 6 -> same("plant(" + a + ", " + on + ")", () -> x.plant(a, on), model.plant(a, on));
            case 7 -> same("undone(" + a + ")", () -> x.undone(a), model.undone(a));
            case 8 -> same("differ(" + a + ", " + b + ")", () -> x.differ(a, b), model.differ(a, b));
            case 9 -> same("cover(" + a + ", " + b + ")", () -> x.cover(a, b), model.cover(a, b));
            case 10 -> same("least(" + a + ")", () -> x.least(a), model.least(a));
            case 11 -> same("seed(" + v + ")", () -> x.seed(v), model.seed(v));
            case 12 -> same("shorter()", x::shorter, model.shorter());
            default -> same("cases(" + a + ", " + b + ")", () -> x.cases(a, b), model.cases(a, b));
        }
    }

    private void same(String call, IntSupplier asked, int want) {
        made++;
        int got;
        try {
            got = asked.getAsInt();
        } catch (RuntimeException e) {
            got = THROWN;
        }
        Due.is("object " + number + ", call " + made + ": " + call, got, want);
    }
}
