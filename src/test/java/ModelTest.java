import java.util.Random;

/** TestText against SlowModel, on drawn texts and calls; the drawn numbers are the same each time. */
public final class ModelTest {
    private static final String[] NAMES = {"a", "b", "c", "d", "set", "end", "abcdefgh"};
    private static final String[] SPOILERS = {"oh", "end", "always", "name a", "test ta", "loop 21", "set a",
        "set zz 1", "check a ? 1", "draw a 2 1", "wait a = 1 1001", "fault 9 on", "cases a", "set a 1 1", "end end",
        "name A", "set a 1000000", "loop 1", "set ta 1"};
    private static final long[] ODD = {0, 1, -1, 2, 3, 8, 9, 12, 13, 20, 21, 99, 100, 1999, 2000, 999999, 1000000,
        -999999, -1000000, 100000, 100001, Integer.MAX_VALUE, Integer.MIN_VALUE, Long.MAX_VALUE, Long.MIN_VALUE,
        1L << 32, (1L << 32) + 1};

    private final Random random;
    private final TestText x = new TestText();
    private final SlowModel model = new SlowModel();
    private final int number;
    private int values;
    private int tests;

    private ModelTest(int number) {
        this.number = number;
        random = new Random(number);
    }

    public static void main(String[] args) {
        int objects = args.length > 0 ? Integer.parseInt(args[0]) : 3000;
        for (int i = 0; i < objects; i++) {
            new ModelTest(i).tryOne();
        }
        Due.close();
    }

    private void tryOne() {
        int texts = 1 + random.nextInt(3);
        for (int i = 0; i < texts; i++) {
            type(text());
            same("read()", Due.reads(x), model.read());
            same("wrong()", x.wrong(), model.wrong());
            int calls = random.nextInt(40);
            for (int k = 0; k < calls; k++) {
                change();
                look();
            }
            lookAtAll();
        }
    }

    private void same(String call, long got, long want) {
        Due.is("object " + number + ": " + call, got, want);
    }

    private void type(String text) {
        int i = 0;
        while (i < text.length()) {
            int c = 0;
            int n = random.nextInt(10) == 0 ? random.nextInt(4) : 4;
            for (int k = 0; k < 4; k++) {
                boolean sign = k < n && i < text.length();
                c = c << 8 | (sign ? text.charAt(i) : random.nextInt(3) == 0 ? 128 + random.nextInt(128) : 0);
                i += sign ? 1 : 0;
            }
            x.sign(c);
            model.sign(c);
        }
    }

    private String text() {
        StringBuilder text = new StringBuilder();
        values = random.nextInt(10) == 0 ? random.nextInt(22) : 1 + random.nextInt(NAMES.length);
        for (int i = 0; i < values; i++) {
            text.append("name ").append(i < NAMES.length ? NAMES[i] : "v" + (char) ('a' + i)).append('\n');
        }
        tests = random.nextInt(10) == 0 ? random.nextInt(14) : 1 + random.nextInt(4);
        for (int t = 0; t < tests; t++) {
            text.append("test t").append((char) ('a' + t)).append('\n');
            int always = random.nextInt(6);
            for (int i = 0; i < 3; i++) {
                steps(text, random.nextInt(4), 0);
                if (always == i) {
                    text.append("always\n");
                    steps(text, random.nextInt(4), 1);
                    text.append("end\n");
                }
            }
        }
        return spoilt(text);
    }

    private String spoilt(StringBuilder text) {
        if (random.nextInt(5) == 0) {
            int at = text.length() == 0 ? 0 : random.nextInt(text.length());
            int line = text.indexOf("\n", at) + 1;
            text.insert(line, SPOILERS[random.nextInt(SPOILERS.length)] + "\n");
        }
        if (random.nextInt(20) == 0 && text.length() > 0) {
            text.setCharAt(random.nextInt(text.length()), (char) (1 + random.nextInt(127)));
        }
        if (random.nextInt(20) == 0) {
            text.setLength(random.nextInt(text.length() + 1));
        }
        return text.toString();
    }

    private String value() {
        int i = random.nextInt(Math.max(1, values));
        return i < NAMES.length ? NAMES[i] : "v" + (char) ('a' + i);
    }

    private int small() {
        return random.nextInt(30) == 0 ? random.nextInt(1999999) - 999999 : random.nextInt(4) - 1;
    }

    private String comparison() {
        return value() + " " + "=<>!!!".charAt(random.nextInt(6)) + " " + small();
    }

    private void steps(StringBuilder text, int many, int depth) {
        for (int i = 0; i < many; i++) {
            switch (random.nextInt(depth < 8 ? 10 : 7)) {
                case 0, 1 -> text.append("set ").append(value()).append(' ').append(small());
                case 2 -> {
                    int low = small();
                    text.append("draw ").append(value()).append(' ').append(low).append(' ')
                            .append(Math.min(999999, low + random.nextInt(9)));
                }
                case 3 -> text.append("wait ").append(comparison()).append(' ')
                        .append(random.nextInt(8) == 0 ? random.nextInt(1001) : random.nextInt(12));
                case 4 -> text.append("check ").append(comparison());
                case 5, 6 -> text.append("fault ").append(1 + random.nextInt(8))
                        .append(random.nextInt(3) == 0 ? " off" : " on");
                case 7, 8 -> {
                    text.append("loop ").append(1 + random.nextInt(random.nextInt(3) == 0 ? 20 : 4)).append('\n');
                    steps(text, random.nextInt(4), depth + 1);
                    text.append("end");
                }
                default -> {
                    text.append("cases ").append(value());
                    for (int k = random.nextInt(random.nextInt(3) == 0 ? 10 : 3); k >= 0; k--) {
                        text.append(' ').append(small());
                    }
                    text.append('\n');
                    steps(text, random.nextInt(4), depth + 1);
                    text.append("end");
                }
            }
            text.append('\n');
        }
    }

    private long odd() {
        return random.nextInt(3) == 0 ? ODD[random.nextInt(ODD.length)] : random.nextInt(24) - 2;
    }

    private void change() {
        switch (random.nextInt(12)) {
            case 0, 1, 2 -> {
                long s = random.nextInt(4) == 0 ? ODD[random.nextInt(ODD.length)] : random.nextLong();
                same("seed(" + s + ")", x.seed(s), model.seed(s));
            }
            case 3 -> {
                int f = (int) odd();
                boolean on = random.nextBoolean();
                same("plant(" + f + ", " + on + ")", x.plant(f, on), model.plant(f, on));
            }
            case 4, 5 -> same("run()", x.run(), model.run());
            case 6 -> {
                for (int i = random.nextInt(30); i >= 0; i--) {
                    answer(1 + random.nextInt(Math.max(1, values)), small(), random.nextInt(40));
                }
            }
            case 7 -> answer((int) odd(), odd(), odd());
            default -> answer(1 + random.nextInt(Math.max(1, values)), small(), random.nextInt(1200));
        }
    }

    private void answer(int name, long v, long t) {
        same("answer(" + name + ", " + v + ", " + t + ")", x.answer(name, v, t), model.answer(name, v, t));
    }

    private void look() {
        int a = (int) odd();
        int b = random.nextBoolean() ? (int) odd() : random.nextInt(4) - 1;
        same("verdict(" + a + ", " + b + ")", x.verdict(a, b), model.verdict(a, b));
        same("ended(" + a + ")", x.ended(a), model.ended(a));
        same("undone(" + a + ")", x.undone(a), model.undone(a));
        same("differ(" + a + ", " + b + ")", x.differ(a, b), model.differ(a, b));
        same("cover(" + b + ", " + a + ")", x.cover(b, a), model.cover(b, a));
        same("shorter()", x.shorter(), model.shorter());
        same("cases(" + a + ", " + b + ")", x.cases(a, b), model.cases(a, b));
        same("wrong()", x.wrong(), model.wrong());
    }

    private void lookAtAll() {
        for (int i = 0; i <= 13; i++) {
            for (int what = -1; what <= 3; what++) {
                same("verdict(" + i + ", " + what + ")", x.verdict(i, what), model.verdict(i, what));
                same("cover(" + what + ", " + i + ")", x.cover(what, i), model.cover(what, i));
            }
            same("ended(" + i + ")", x.ended(i), model.ended(i));
            same("undone(" + i + ")", x.undone(i), model.undone(i));
            if (tests < 9) {
                same("least(" + i + ")", x.least(i), model.least(i));
            }
        }
        for (int run = 0; run <= 9; run++) {
            for (int other = 0; other <= 9; other++) {
                same("differ(" + run + ", " + other + ")", x.differ(run, other), model.differ(run, other));
            }
        }
        for (int i = 0; i <= 2000; i++) {
            for (int what = 0; what <= 2; what++) {
                same("cases(" + i + ", " + what + ")", x.cases(i, what), model.cases(i, what));
            }
        }
    }
}
