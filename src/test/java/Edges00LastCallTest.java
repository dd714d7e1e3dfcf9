import java.util.function.Consumer;

/** An object is used for at most 512 calls: the last of these answers as any other does, whichever it is. */
public final class Edges00LastCallTest {
    private static final String TEXT = "name a\ntest t\ndraw a 0 9\nfault 2 on\ncheck a = 7\nalways\nset a 3\nend\n";

    public static void main(String[] args) {
        Due.sentence(1, "An object is used for at most 512 calls after it has been made; what later calls answer is "
                + "free.");
        lastOf(x -> x.wrong(0));
        lastOf(x -> x.answer(1, 5, 5, 2));
        lastOf(x -> x.answer(2, 5, 5, -1));
        lastOf(x -> x.run(1));
        lastOf(x -> x.verdict(1, 0, 1));
        lastOf(x -> x.verdict(1, 1, 5));
        lastOf(x -> x.verdict(1, 2, 2));
        lastOf(x -> x.ended(1, 2));
        lastOf(x -> x.plant(1, true, 2));
        lastOf(x -> x.undoneAt(0, 2));
        lastOf(x -> x.differ(1, 2, -1));
        lastOf(x -> x.cover(0, 1, 4));
        lastOf(x -> x.cover(1, 1, 1));
        lastOf(x -> x.cover(2, 0, 8));
        lastOf(x -> x.leastAt(0, 1));
        lastOf(x -> x.seed(9));
        lastOf(x -> x.shorter(2));
        lastOf(x -> x.cases(3, 2, 3));
        lastOf(x -> x.read(0));
        lastOf(x -> x.sign(0));
        readsAllThatCanBePut();
        readsAgainAndAgain();
        Due.close();
    }

    private static void lastOf(Consumer<Calls> call) {
        call.accept(Calls.having(TEXT).answer(1, 6, 1, 1).plant(8, true, 1).run(1).run(1).untilTheLast());
    }

    /** 511 calls put 2044 signs; the step is the last line of them. */
    private static void readsAllThatCanBePut() {
        String head = "name a\ntest t\n";
        String step = "set a 1\n";
        String empty = "\n".repeat(4 * 511 - head.length() - step.length());
        new Calls().signs(head + empty + step).read(1);
        new Calls().signs(head + empty + "set b 1\n").read(Due.THROWS);
    }

    private static void readsAgainAndAgain() {
        Calls x = new Calls();
        for (int i = 0; i < 512; i++) {
            x.read(0);
        }
        Calls y = new Calls();
        for (int i = 0; i < 256; i++) {
            y.signs("oh").read(Due.THROWS);
        }
    }
}
