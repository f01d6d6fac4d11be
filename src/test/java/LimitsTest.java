import java.util.function.IntUnaryOperator;
import java.util.function.Supplier;

/**
 * Each argument of each call: every number that is as told, the first on both sides that is not, and the least and
 * greatest that an int holds. Each call is made on an object of its own.
 */
public final class LimitsTest {
    private static final Checks c = new Checks("LimitsTest");
    private static final int[] FAR = {Integer.MIN_VALUE, Integer.MIN_VALUE + 1, -1000003, -1000000, -256, -2, 256, 65536,
        1000000, Integer.MAX_VALUE - 1, Integer.MAX_VALUE};

    private interface Call {
        int of(YoungerBack x, int v);
    }

    public static void main(String[] args) {
        rows();
        itemsOfRows();
        copies();
        bytes();
        peopleByHowMany();
        waysByHowMany();
        harboursByHowMany();
        sails();
        years();
        sums();
        foretold();
        foretoldNumbers();
        asked();
        c.end();
    }

    /** Whatever is from least to most is answered as wanted, whatever is beyond with one refusal. */
    private static void range(String call, Supplier<YoungerBack> made, Call asked, int least, int most, int beyond, IntUnaryOperator want) {
        for (int v = least; v <= most; v++) {
            c.due(call + " of " + v, asked.of(made.get(), v), want.applyAsInt(v));
        }
        c.due(call + " of " + (least - 1), asked.of(made.get(), least - 1), beyond);
        c.due(call + " of " + (most + 1), asked.of(made.get(), most + 1), beyond);
        for (int v : FAR) {
            if (v < least || v > most) {
                c.due(call + " of " + v, asked.of(made.get(), v), beyond);
            }
        }
    }

    private static YoungerBack rowsOf(int lane, int n) {
        YoungerBack x = new YoungerBack();
        for (int row = 0; row < 8; row++) {
            x.row(row, lane, n);
        }
        return x;
    }

    private static void rows() {
        c.says("ROWS 0 .. 7 are missing (at first), or have a LANE (0 bytes, 1 shorts, 2 ints) and 0 to 40 ITEMS, 0 at first.");
        range("row(v, 1, 2)", YoungerBack::new, (x, v) -> x.row(v, 1, 2), 0, 7, Checks.BAD, v -> 2);
        range("row(1, v, 2)", YoungerBack::new, (x, v) -> x.row(1, v, 2), 0, 2, Checks.BAD, v -> 2);
        for (int n = 0; n <= 40; n++) {
            c.due("row(7, 2, " + n + ")", new YoungerBack().row(7, 2, n), n);
        }
        int[] above = {41, 42, 255, 65536, Integer.MAX_VALUE - 1, Integer.MAX_VALUE};
        for (int n : above) {
            c.due("row(0, 0, " + n + ")", new YoungerBack().row(0, 0, n), Checks.BAD);
        }
        int[] below = {-1, -2, -41, -256, -1000014, Integer.MIN_VALUE + 1, Integer.MIN_VALUE};
        for (int n : below) {
            c.due("row(0, 0, " + n + ")", new YoungerBack().row(0, 0, n), Checks.SIZE);
        }
        range("set(v, 0, 5)", () -> rowsOf(0, 1), (x, v) -> x.set(v, 0, 5), 0, 7, Checks.BAD, v -> 5);
        range("set(v, 0, 5), all missing", YoungerBack::new, (x, v) -> x.set(v, 0, 5), 0, 7, Checks.BAD, v -> Checks.NULL);
        range("drop(v)", () -> rowsOf(0, 3), (x, v) -> x.drop(v), 0, 7, Checks.BAD, v -> 3);
        range("drop(v), all missing", YoungerBack::new, (x, v) -> x.drop(v), 0, 7, Checks.BAD, v -> Checks.NULL);
        range("copy(v, 0, 3, 0, 1)", () -> rowsOf(0, 3), (x, v) -> x.copy(v, 0, 3, 0, 1), 0, 7, Checks.BAD, v -> 1);
        range("copy(3, 0, v, 0, 1)", () -> rowsOf(0, 3), (x, v) -> x.copy(3, 0, v, 0, 1), 0, 7, Checks.BAD, v -> 1);
        range("copy(v, 0, v, 0, 1), all missing", YoungerBack::new, (x, v) -> x.copy(v, 0, v, 0, 1), 0, 7, Checks.BAD, v -> Checks.NULL);
    }

    private static void itemsOfRows() {
        c.says("PLACE (no such place of a ROW)");
        int[] sizes = {0, 1, 2, 39, 40};
        for (int n : sizes) {
            range("set(0, v, 9) of " + n, () -> rowsOf(2, n), (x, v) -> x.set(0, v, 9), 0, n - 1, Checks.PLACE, v -> 9);
        }
        c.says("ITEM i becomes v, its lowest bits, as many as the LANE has (read with their sign): what it is then.");
        int[] values = {0, 1, -1, 127, 128, -128, -129, 255, 256, -256, 384, 32767, 32768, -32768, -32769, 65535, 65536,
            -65536, 98304, 8388607, 8388608, Integer.MAX_VALUE, Integer.MAX_VALUE - 128, Integer.MIN_VALUE, Integer.MIN_VALUE + 127};
        for (int v : values) {
            c.due("set of a byte " + v, rowsOf(0, 1).set(0, 0, v), withSign(v, 8));
            c.due("set of a short " + v, rowsOf(1, 1).set(0, 0, v), withSign(v, 16));
            c.due("set of an int " + v, rowsOf(2, 1).set(0, 0, v), v);
        }
    }

    private static long withSign(int v, int bits) {
        long all = 1L << bits;
        long low = Math.floorMod((long) v, all);
        return low >= all / 2 ? low - all : low;
    }

    private static void copies() {
        c.says("PLACE (i, j, n below 0, or beyond an end)");
        Supplier<YoungerBack> made = () -> rowsOf(1, 5);
        range("copy(0, v, 1, 0, 2)", made, (x, v) -> x.copy(0, v, 1, 0, 2), 0, 3, Checks.PLACE, v -> 2);
        range("copy(0, 0, 1, v, 2)", made, (x, v) -> x.copy(0, 0, 1, v, 2), 0, 3, Checks.PLACE, v -> 2);
        range("copy(0, 0, 1, 0, v)", made, (x, v) -> x.copy(0, 0, 1, 0, v), 0, 5, Checks.PLACE, v -> v);
        range("copy(0, 2, 1, 0, v)", made, (x, v) -> x.copy(0, 2, 1, 0, v), 0, 3, Checks.PLACE, v -> v);
        range("copy(0, 0, 1, 2, v)", made, (x, v) -> x.copy(0, 0, 1, 2, v), 0, 3, Checks.PLACE, v -> v);
        range("copy(0, v, 1, 0, 0)", made, (x, v) -> x.copy(0, v, 1, 0, 0), 0, 5, Checks.PLACE, v -> 0);
        range("copy(0, 0, 1, v, 0)", made, (x, v) -> x.copy(0, 0, 1, v, 0), 0, 5, Checks.PLACE, v -> 0);
        range("copy(0, v, 0, v, 5)", made, (x, v) -> x.copy(0, v, 0, v, 5), 0, 0, Checks.PLACE, v -> 5);
        range("copy(0, v, 1, v, 0) of none", () -> rowsOf(1, 0), (x, v) -> x.copy(0, v, 1, v, 0), 0, 0, Checks.PLACE, v -> 0);
        range("copy(0, 0, 1, 0, v) of 40", () -> rowsOf(2, 40), (x, v) -> x.copy(0, 0, 1, 0, v), 0, 40, Checks.PLACE, v -> v);
        int[] far = {1, 5, Integer.MAX_VALUE - 4, Integer.MAX_VALUE - 1, Integer.MAX_VALUE, Integer.MIN_VALUE, Integer.MIN_VALUE + 5};
        for (int i : far) {
            for (int n : far) {
                boolean stands = i == 1 && n == 1 || i == 5 && n == 0;
                c.due("copy(0, " + i + ", 1, 0, " + n + ")", rowsOf(1, 5).copy(0, i, 1, 0, n), stands ? n : Checks.PLACE);
                c.due("copy(0, 0, 1, " + i + ", " + n + ")", rowsOf(1, 5).copy(0, 0, 1, i, n), stands ? n : Checks.PLACE);
            }
        }
    }

    private static void bytes() {
        c.says("The lowest n bytes of w (1 to 8), the highest of them first, come behind the tape: how many it has.");
        range("feed(w, v)", YoungerBack::new, (x, v) -> x.feed(-1L, v), 1, 8, Checks.BAD, v -> v);
        range("feed(w, v) behind 3", () -> fed(3), (x, v) -> x.feed(0L, v), 1, 8, Checks.BAD, v -> 3 + v);
        c.says("THE TAPE has at most 400 bytes");
        for (int n = 1; n <= 8; n++) {
            int now = n;
            c.due(n + " bytes to 400", fed(400 - n).feed(0L, n), 400);
            c.due(n + " bytes to 401", fed(401 - n).feed(0L, n), Checks.FULL);
            range("feed(w, v) behind " + (400 - n), () -> fed(400 - now), (x, v) -> x.feed(0L, v), 1, 8, Checks.BAD, v -> v <= now ? 400 - now + v : Checks.FULL);
        }
        range("feed(w, v) behind 400", () -> fed(400), (x, v) -> x.feed(0L, v), 1, 8, Checks.BAD, v -> Checks.FULL);
    }

    private static YoungerBack fed(int n) {
        YoungerBack x = new YoungerBack();
        Checks.feed(x, " ".repeat(n));
        return x;
    }

    private static YoungerBack people(int n) {
        return Checks.with("law 2 0;way 0 1 3 1;" + "person clerk 1 9;".repeat(n));
    }

    private static void peopleByHowMany() {
        c.says("PEOPLE 0 .. 3, 4 at most");
        for (int n = 0; n <= 4; n++) {
            int most = n - 1;
            Supplier<YoungerBack> made = () -> withRow(people(most + 1));
            range("sail(v, 0) of " + n, made, (x, v) -> x.sail(v, 0), 0, most, Checks.BAD, v -> 0);
            range("sails(v, 0, 0, 1) of " + n, made, (x, v) -> x.sails(v, 0, 0, 1), 0, most, Checks.BAD, v -> 1);
            range("stay(v, 1) of " + n, made, (x, v) -> x.stay(v, 1), 0, most, Checks.BAD, v -> 10);
            range("borrow(v, 1) of " + n, made, (x, v) -> x.borrow(v, 1), 0, most, Checks.BAD, v -> 0);
            range("person(v, 2) of " + n, made, (x, v) -> x.person(v, 2), 0, most, Checks.BAD, v -> 9);
            range("gains(v, 1, 0, 0) of " + n, made, (x, v) -> x.gains(v, 1, 0, 0), 0, most, Checks.BAD, v -> 1);
            range("soonest(v, 0, 0) of " + n, made, (x, v) -> x.soonest(v, 0, 0), 0, most, Checks.BAD, v -> 3);
            range("voyages(v, 0) of " + n, made, (x, v) -> x.voyages(v, 0), 0, most, Checks.BAD, v -> 1);
            range("where(v, 0, 9) of " + n, made, (x, v) -> x.where(v, 0, 9), 0, most, Checks.BAD, v -> 2);
            range("gone(v) of " + n, made, (x, v) -> x.gone(v), 0, most, Checks.BAD, v -> 0);
            range("kind(v) of " + n, made, (x, v) -> x.kind(v), 0, most, Checks.BAD, v -> 4);
            range("as(v, 4) of " + n, made, (x, v) -> x.as(v, 4), 0, most, Checks.BAD, v -> v);
            range("ask(v, 0) of " + n, made, (x, v) -> x.ask(v, 0), 0, most, Checks.BAD, v -> -91);
            range("meet(v, 0) of " + n, made, (x, v) -> x.meet(v, 0), 1, most, Checks.BAD, v -> 0);
            range("meet(0, v) of " + n, made, (x, v) -> x.meet(0, v), 1, most, Checks.BAD, v -> 0);
            range("even(v, 0, 0) of " + n, made, (x, v) -> x.even(v, 0, 0), 1, most, Checks.BAD, v -> 3);
            range("even(0, v, 0) of " + n, made, (x, v) -> x.even(0, v, 0), 1, most, Checks.BAD, v -> 3);
        }
    }

    private static YoungerBack withRow(YoungerBack x) {
        x.row(0, 0, 1);
        return x;
    }

    private static YoungerBack ways(int n) {
        return withRow(Checks.with("law 2 0;" + "way 0 1 3 1;".repeat(n) + "person clerk 1 9;"));
    }

    private static void waysByHowMany() {
        c.says("WAYS 0 .. 7, 8 at most; for both directions");
        for (int n = 0; n <= 8; n++) {
            int most = n - 1;
            range("sail(0, v) of " + n, () -> ways(most + 1), (x, v) -> x.sail(0, v), 0, most, Checks.BAD, v -> 0);
            range("sails() of ITEM v of " + n, () -> ways(most + 1), LimitsTest::sailsItem, 0, most, Checks.BAD, v -> 1);
        }
    }

    /** The ITEM is an int, so that v stays as it is. */
    private static int sailsItem(YoungerBack x, int v) {
        Checks.rowOf(x, 5, v);
        return x.sails(0, 5, 0, 1);
    }

    private static YoungerBack harbours(int n) {
        return Checks.with("law " + n + " 0;person clerk 0 9;person monk 0 9;");
    }

    private static void harboursByHowMany() {
        c.says("law: 'law' HARBOURS RATE ';' (1 to 5; 0 to 20).");
        for (int n = 1; n <= 5; n++) {
            int many = n;
            Supplier<YoungerBack> made = () -> harbours(many);
            range("gains(0, v, 0, 0) of " + n, made, (x, v) -> x.gains(0, v, 0, 0), 0, n - 1, Checks.BAD, v -> v == 0 ? 1 : 0);
            range("soonest(0, v, 0) of " + n, made, (x, v) -> x.soonest(0, v, 0), 0, n - 1, Checks.BAD, v -> v == 0 ? 0 : Checks.NONE);
            range("voyages(0, v) of " + n, made, (x, v) -> x.voyages(0, v), 0, n - 1, Checks.BAD, v -> v == 0 ? 0 : Checks.NONE);
            range("even(0, 1, v) of " + n, made, (x, v) -> x.even(0, 1, v), 0, n - 1, Checks.BAD, v -> v == 0 ? 0 : Checks.NONE);
        }
    }

    private static YoungerBack sailor() {
        YoungerBack x = Checks.with("law 2 0;way 0 1 1 1;person captain 0 0;");
        for (int row = 0; row < 8; row++) {
            x.row(row, row % 3, 30);
        }
        return x;
    }

    private static void sails() {
        c.says("One SAILS n WAYS (1 to 24), ITEMS of a ROW from i on, an ACT each, as long as he can: how many.");
        range("sails(0, 0, 0, v)", LimitsTest::sailor, (x, v) -> x.sails(0, 0, 0, v), 1, 24, Checks.BAD, v -> v);
        range("sails(0, v, 0, 3)", LimitsTest::sailor, (x, v) -> x.sails(0, v, 0, 3), 0, 7, Checks.BAD, v -> 3);
        range("sails(0, 1, v, 1)", LimitsTest::sailor, (x, v) -> x.sails(0, 1, v, 1), 0, 29, Checks.PLACE, v -> 1);
        range("sails(0, 1, v, 24)", LimitsTest::sailor, (x, v) -> x.sails(0, 1, v, 24), 0, 6, Checks.PLACE, v -> 24);
        range("sails(0, 1, 20, v)", LimitsTest::sailor, (x, v) -> x.sails(0, 1, 20, v), 1, 24, Checks.BAD, v -> v <= 10 ? v : Checks.PLACE);
    }

    private static void years() {
        c.says("One STAYS n years (1 to 99): his AGE.");
        range("stay(0, v)", LimitsTest::sailor, (x, v) -> x.stay(0, v), 1, 99, Checks.BAD, v -> v);
        c.says("CLOCK is 200 at most.");
        for (int clock = 101; clock <= 200; clock++) {
            int now = clock;
            range("stay(0, v) at CLOCK " + clock, () -> atClock(now), (x, v) -> x.stay(0, v), 1, 99, Checks.BAD, v -> now + v <= 200 ? now + v : Checks.FULL);
        }
    }

    private static YoungerBack atClock(int clock) {
        YoungerBack x = sailor();
        for (int years = clock; years > 0; years -= 99) {
            x.stay(0, Math.min(years, 99));
        }
        c.due("CLOCK", x.person(0, 1), clock);
        return x;
    }

    private static void sums() {
        c.says("One BORROWS (1 to 9999): what he owed by the shore's clock.");
        range("borrow(0, v)", LimitsTest::sailor, (x, v) -> x.borrow(0, v), 1, 9999, Checks.BAD, v -> 0);
        range("OWED of borrow(0, v)", LimitsTest::sailor, (x, v) -> x.borrow(0, v) < 0 ? Checks.BAD : x.person(0, 4), 1, 9999, Checks.BAD, v -> v);
    }

    private static void foretold() {
        c.says("Of one: 0 HARBOUR, 1 CLOCK, 2 AGE, 3 LAG, 4 OWED by the shore's clock, 5 by his own. BAD.");
        range("person(0, v)", () -> harbours(1), (x, v) -> x.person(0, v), 0, 5, Checks.BAD, v -> v == 2 ? 9 : 0);
        c.says("GAINS in a HARBOUR behind n years of the shore's (0 to 40)");
        range("gains(0, 0, v, 0)", () -> harbours(1), (x, v) -> x.gains(0, 0, v, 0), 0, 40, Checks.BAD, v -> 1);
        range("gains(0, 0, v, 1)", () -> harbours(1), (x, v) -> x.gains(0, 0, v, 1), 0, 40, Checks.BAD, v -> 0);
        range("gains(0, 1, v, 2)", () -> harbours(2), (x, v) -> x.gains(0, 1, v, 2), 0, 40, Checks.BAD, v -> Checks.NONE);
        range("gains(0, 0, 0, v)", () -> harbours(1), (x, v) -> x.gains(0, 0, 0, v), 0, 2, Checks.BAD, v -> v == 0 ? 1 : 0);
        c.says("SOONEST in a HARBOUR with a gain of l (0 to 40)");
        range("soonest(0, 0, v)", () -> harbours(1), (x, v) -> x.soonest(0, 0, v), 0, 40, Checks.BAD, v -> v == 0 ? 0 : Checks.NONE);
        range("soonest(0, 0, v) of a monk", LimitsTest::monk, (x, v) -> x.soonest(0, 0, v), 0, 40, Checks.BAD, v -> v % 2 == 0 ? v : Checks.NONE);
        range("soonest(0, 1, v) of a monk", LimitsTest::monk, (x, v) -> x.soonest(0, 1, v), 0, 40, Checks.BAD, v -> v % 2 == 1 ? v : Checks.NONE);
    }

    private static YoungerBack monk() {
        return Checks.with("law 2 0;way 0 1 1 1;person monk 0 0;");
    }

    private static void foretoldNumbers() {
        c.says("WHERE (CLOCK 0 to 200, AGE 0 to 399)");
        range("where(0, v, 9)", () -> harbours(1), (x, v) -> x.where(0, v, 9), 0, 200, Checks.BAD, v -> v == 0 ? 1 : 0);
        range("where(0, 0, v)", () -> harbours(1), (x, v) -> x.where(0, 0, v), 0, 399, Checks.BAD, v -> v == 9 ? 1 : 0);
        range("where(0, 200, v)", () -> harbours(1), (x, v) -> x.where(0, 200, v), 0, 399, Checks.BAD, v -> 0);
        c.says("ELDEST by AGE (what = 0), at CLOCK 0 (1)");
        range("eldest(v)", () -> harbours(1), (x, v) -> x.eldest(v), 0, 1, Checks.BAD, v -> 0);
        range("eldest(v) without a LEAGUE", YoungerBack::new, (x, v) -> x.eldest(v), 0, 1, Checks.STATE, v -> Checks.STATE);
    }

    private static void asked() {
        c.says("An IMAGE (0, 1) is kept of the LEAGUE: 1.");
        range("image(v)", () -> harbours(1), (x, v) -> x.image(v), 0, 1, Checks.BAD, v -> 1);
        range("image(v) without a LEAGUE", YoungerBack::new, (x, v) -> x.image(v), 0, 1, Checks.BAD, v -> Checks.STATE);
        range("restore(v)", LimitsTest::kept, (x, v) -> x.restore(v), 0, 1, Checks.BAD, v -> 1);
        range("restore(v) of none", () -> harbours(1), (x, v) -> x.restore(v), 0, 1, Checks.BAD, v -> Checks.STATE);
        c.says("One is taken as one of a KIND (0 .. 5): his number.");
        range("as(0, v) of a clerk", () -> harbours(1), (x, v) -> x.as(0, v), 0, 5, Checks.BAD, v -> v % 4 == 0 ? 0 : Checks.KIND);
        c.says("An ASK (0, 1) of one. BAD.");
        range("ask(0, v)", () -> harbours(1), (x, v) -> x.ask(0, v), 0, 1, Checks.BAD, v -> v == 0 ? -91 : 91);
        c.says("Number i of THE TRACE; NONE.");
        range("trace(v)", LimitsTest::asker, (x, v) -> x.trace(v), 0, 3, Checks.NONE, v -> new int[] {23, 20, 13, 10}[v]);
        range("trace(v) of none", YoungerBack::new, (x, v) -> x.trace(v), 0, -1, Checks.NONE, v -> 0);
        c.says("How many: 0 ROWS (that are not missing), 1 PEOPLE, 2 WAYS, 3 HARBOURS, 4 ACTS that can be undone, 5 RATE, 6 bytes on the tape (3, 5: 0 without a LEAGUE). BAD.");
        range("count(v) of a new one", YoungerBack::new, (x, v) -> x.count(v), 0, 6, Checks.BAD, v -> 0);
        range("count(v)", LimitsTest::counted, (x, v) -> x.count(v), 0, 6, Checks.BAD, v -> new int[] {2, 1, 3, 4, 5, 6, 7}[v]);
    }

    private static YoungerBack kept() {
        YoungerBack x = harbours(1);
        x.image(0);
        x.image(1);
        return x;
    }

    private static YoungerBack asker() {
        YoungerBack x = harbours(1);
        x.ask(0, 1);
        return x;
    }

    private static YoungerBack counted() {
        YoungerBack x = Checks.with("law 4 6;way 0 1 1 1;way 0 1 1 1;way 0 1 1 1;person boy 0 0;");
        x.row(1, 1, 0);
        x.row(7, 1, 40);
        for (int k = 0; k < 5; k++) {
            x.borrow(0, 1);
        }
        x.feed(0L, 7);
        return x;
    }
}
