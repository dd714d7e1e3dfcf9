/** The boundary cases of promise 8, sentence by sentence. */
public final class Edges08EndedTest {
    public static void main(String[] args) {
        howOften();
        thereIsNone();
        Due.close();
    }

    private static void howOften() {
        Due.sentence(8, "How often test i's always was begun in all RUNS.");
        Calls x = Calls.of("name a", "test t", "test u", "always", "end", "test v", "check a = 1", "always", "set a 1",
                "end", "test w", "always", "check a = 1", "end");
        for (int i = 1; i <= 4; i++) {
            x.ended(i, 0);
        }
        for (int run = 1; run <= 8; run++) {
            x.run(2).ended(1, 0).ended(2, run).ended(3, run).ended(4, run);
        }
        x.run(-4).ended(1, 0).ended(2, 8).ended(3, 8).ended(4, 8);
        x.signs("test u\nalways\nend").read(1).ended(1, 0).run(0).ended(1, 1);
        // Not where the RUN has no more steps for it to be reached.
        Calls.having("test t\n" + Due.many(8, "loop 20") + Due.many(8, "end") + "always\nend\ntest u\nalways\nend")
                .run(2).ended(1, 0).ended(2, 0);
    }

    private static void thereIsNone() {
        Due.sentence(8, "-1 there is none.");
        new Calls().ended(0, -1).ended(1, -1);
        Calls.of("name a").ended(1, -1);
        Calls x = Calls.of("test a", "test b", "test c", "test d", "test e", "test f", "test g", "test h", "test i",
                "test j", "test k", "test l", "always", "end");
        for (int round = 0; round < 2; round++) {
            for (int i : new int[] {0, 13, -1, Integer.MIN_VALUE, Integer.MAX_VALUE}) {
                x.ended(i, -1);
            }
            x.ended(1, 0).ended(12, round).run(0);
        }
    }
}
