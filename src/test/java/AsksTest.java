/** Promises 25 to 28: kind, as, ask, trace. */
public final class AsksTest {
    private static final String FOUR = "law 3 0;way 0 2 3 1;person captain 1 30;person pilot 2 28;person monk 1 40;person clerk 0 50;";
    private static final Checks c = new Checks("AsksTest");

    public static void main(String[] args) {
        kind();
        as();
        size();
        mark();
        boy();
        refused();
        c.end();
    }

    private static void kind() {
        YoungerBack x = Checks.with(FOUR);
        for (int p = 0; p < 4; p++) {
            c.due("kind", x.kind(p), p + 1);
        }
        c.due("nobody", x.kind(4), Checks.BAD);
        c.due("nobody", x.kind(-1), Checks.BAD);
        Checks.read(x, "law 1 0;person boy 0 3;");
        c.due("boy", x.kind(0), 5);
        c.due("nobody", x.kind(1), Checks.BAD);
    }

    private static void as() {
        YoungerBack x = Checks.with(FOUR);
        // the kinds of each, as bits
        int[] kinds = {0b000011, 0b000111, 0b001011, 0b010001};
        for (int p = 0; p < 4; p++) {
            for (int k = 0; k <= 5; k++) {
                boolean is = (kinds[p] >> k & 1) == 1;
                c.due("as(" + p + ", " + k + ")", x.as(p, k), is ? p : Checks.KIND);
                c.due("status", x.status(), is ? 0 : 3);
            }
        }
        c.due("kind 6", x.as(0, 6), Checks.BAD);
        c.due("kind -1", x.as(0, -1), Checks.BAD);
        c.due("nobody", x.as(4, 0), Checks.BAD);
        c.due("status stays", x.status(), 3);
        Checks.read(x, "law 1 0;person boy 0 3;");
        c.due("a boy is a clerk", x.as(0, 4), 0);
        c.due("a boy is a boy", x.as(0, 5), 0);
        c.due("a boy is a person", x.as(0, 0), 0);
        c.due("a boy is no captain", x.as(0, 1), Checks.KIND);
    }

    private static void size() {
        YoungerBack x = Checks.with(FOUR);
        c.due("captain: age and mark", x.ask(0, 0), 30 + 0 + 1);
        c.trace(x, 11, 10, 21, 20);
        c.due("pilot", x.ask(1, 0), -(28 + 2 * (1 + 2)));
        c.trace(x, 12, 11, 10, 24, 21, 20);
        c.due("monk", x.ask(2, 0), 40 + 2 + 1 - 1000);
        c.trace(x, 11, 10, 22, 21, 20);
        c.due("clerk", x.ask(3, 0), 50 - 100);
        c.trace(x, 13, 10);
        x.stay(0, 7);
        c.due("as old as he is now", x.ask(0, 0), 38);
        x.sail(1, 0);
        c.due("where he is now", x.ask(1, 0), -(28 + 2 * (1 + 0)));
    }

    private static void mark() {
        YoungerBack x = Checks.with(FOUR);
        c.due("captain", x.ask(0, 1), 1);
        c.trace(x, 21, 20);
        c.due("pilot", x.ask(1, 1), 6);
        c.trace(x, 24, 21, 20);
        c.due("monk", x.ask(2, 1), 2 + 1 - 1000);
        c.trace(x, 22, 21, 20);
        c.due("clerk", x.ask(3, 1), 3 - (50 - 100));
        c.trace(x, 23, 20, 13, 10);
    }

    private static void boy() {
        YoungerBack x = Checks.with("law 2 0;person clerk 0 1;person boy 1 12;");
        c.due("size", x.ask(1, 0), 2 * (12 - 100));
        c.trace(x, 14, 13, 10);
        c.due("mark", x.ask(1, 1), 1 + 176);
        c.trace(x, 23, 20, 14, 13, 10);
    }

    private static void refused() {
        YoungerBack x = Checks.with(FOUR);
        c.due("nothing asked", x.trace(0), Checks.NONE);
        x.ask(3, 0);
        c.due("what 2", x.ask(0, 2), Checks.BAD);
        c.due("what -1", x.ask(0, -1), Checks.BAD);
        c.due("nobody", x.ask(4, 0), Checks.BAD);
        c.due("nobody", x.ask(-1, 0), Checks.BAD);
        c.trace(x, 13, 10);
        c.due("trace -1", x.trace(-1), Checks.NONE);
        c.due("trace 16", x.trace(16), Checks.NONE);
        c.due("trace far", x.trace(Integer.MAX_VALUE), Checks.NONE);
        c.due("trace far", x.trace(Integer.MIN_VALUE), Checks.NONE);
        c.due("status is not of ask", x.status(), 0);
    }
}
