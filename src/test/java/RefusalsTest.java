import java.util.List;
import java.util.function.Supplier;

/**
 * Each refusal and finding, in the order in which the document tells them, and that it changes nothing but
 * status(): an object that was refused a call is told the same of as one that was never asked (see Told).
 */
public final class RefusalsTest {
    private static final Checks c = new Checks("RefusalsTest");
    private static final int LOW = Integer.MIN_VALUE, HIGH = Integer.MAX_VALUE;
    private static final int BAD = Checks.BAD, STATE = Checks.STATE, FULL = Checks.FULL, NONE = Checks.NONE;
    private static final int NULL = Checks.NULL, PLACE = Checks.PLACE, KIND = Checks.KIND, SIZE = Checks.SIZE, STORE = Checks.STORE;

    /** Which status() the object has that is refused. */
    private static final int STATUS = 3;

    private interface Call {
        int of(YoungerBack x);
    }

    private static Supplier<YoungerBack> made = RefusalsTest::busy;
    private static List<Integer> untouched = Told.of(busy());

    public static void main(String[] args) {
        newObject();
        findings();
        inState(RefusalsTest::busy);
        rowsRefused();
        copyRefused();
        feedRefused();
        sailRefused();
        sailsRefused();
        actsRefused();
        foretoldRefused();
        askedRefused();
        questionsChangeNothing();
        inState(RefusalsTest::brimful);
        fullRefused();
        inState(RefusalsTest::withoutLeague);
        noLeague();
        inState(RefusalsTest::justRead);
        nothingYet();
        c.end();
    }

    private static void inState(Supplier<YoungerBack> maker) {
        made = maker;
        untouched = Told.of(maker.get());
        c.holds("what is told of it stays within 512 calls", untouched.size() < 400);
    }

    /** ROWS 0 to 3 of each LANE, 4 to 7 missing; five ACTS, the monk at CLOCK 200; an IMAGE, a trace, half a text. */
    private static YoungerBack busy() {
        YoungerBack x = Checks.with("law 3 10;way 0 1 10 4;way 1 2 11 0;way 0 2 20 20;"
            + "person captain 0 30;person boy 0 7;person monk 2 40;person clerk 1 50;");
        rows(x);
        x.sail(0, 0);
        x.image(0);
        x.borrow(0, 500);
        x.stay(2, 99);
        x.stay(2, 99);
        x.stay(2, 2);
        x.ask(3, 1);
        Checks.feed(x, "law 2 5;x");
        x.as(0, 3);
        return x;
    }

    private static void rows(YoungerBack x) {
        Checks.rowOf(x, 0, 0, 1, 7, -1, 2);
        x.row(1, 1, 2);
        x.row(2, 0, 0);
        x.row(3, 0, 3);
        x.set(3, 1, 2);
    }

    /** 24 ACTS, and a tape of 396 bytes. */
    private static YoungerBack brimful() {
        YoungerBack x = Checks.with("law 2 0;way 0 1 20 20;person boy 0 7;person monk 0 40;");
        for (int k = 0; k < 19; k++) {
            x.meet(0, 1);
        }
        x.stay(1, 90);
        x.stay(1, 91);
        x.stay(0, 99);
        x.stay(0, 99);
        x.stay(0, 2);
        Checks.feed(x, " ".repeat(388) + "law 1 0;");
        x.as(0, 3);
        return x;
    }

    /** Only ROWS, and a text that was not read. */
    private static YoungerBack withoutLeague() {
        YoungerBack x = new YoungerBack();
        Checks.read(x, "law 9 9;");
        rows(x);
        Checks.feed(x, "law 2 5;");
        x.set(0, 5, 1);
        x.set(4, 0, 1);
        return x;
    }

    private static YoungerBack justRead() {
        YoungerBack x = Checks.with("law 1 0;");
        x.row(0, 0, 1);
        return x;
    }

    private static boolean isFinding(int answer) {
        return answer <= NULL && answer >= STORE;
    }

    /** A call that is answered so, and changes nothing; status() becomes another one by a FINDING alone. */
    private static void refused(String call, Call asked, int due) {
        YoungerBack x = made.get();
        int status = x.status();
        c.due(call, asked.of(x), due);
        c.due("status() behind " + call, x.status(), isFinding(due) ? -1000010 - due : status);
        c.holds(call + " changes nothing", Told.of(x).equals(untouched));
    }

    /** A call that asks for something and is answered, and changes nothing, not even status(). */
    private static void asksOnly(String call, Call asked, int due) {
        c.holds(call + " is no refusal", due > NONE || due == NONE);
        refused(call, asked, due);
    }

    private static void newObject() {
        c.says("`YoungerBack()`: No LEAGUE.");
        YoungerBack x = new YoungerBack();
        c.due("status() of a new one", x.status(), 0);
        c.due("fault() of a new one", x.fault(), 0);
        for (int what = 0; what <= 6; what++) {
            c.due("count(" + what + ") of a new one", x.count(what), 0);
        }
        c.due("trace(0) of a new one", x.trace(0), NONE);
        c.due("eldest(0) of a new one", x.eldest(0), STATE);
        c.holds("two new ones are alike", Told.of(x).equals(Told.of(new YoungerBack())));
    }

    private static void findings() {
        c.says("-1000010 less 1 NULL (a ROW that is missing), 2 PLACE (no such place of a ROW), 3 KIND (one of the PEOPLE that is not that), 4 SIZE (fewer than none), 5 STORE (ROWS of two LANES).");
        YoungerBack x = busy();
        c.due("NULL", x.drop(6), -1000011);
        c.due("status()", x.status(), 1);
        c.due("PLACE", x.set(0, 5, 0), -1000012);
        c.due("status()", x.status(), 2);
        c.due("KIND", x.as(0, 2), -1000013);
        c.due("status()", x.status(), 3);
        c.due("SIZE", x.row(6, 2, -1), -1000014);
        c.due("status()", x.status(), 4);
        c.due("STORE", x.copy(0, 0, 3, 0, 1), -1000015);
        c.due("status()", x.status(), 5);
        c.says("What is refused, or found, changes nothing but status().");
        c.holds("all of them change nothing", Told.of(x).equals(Told.of(busy())));
    }

    private static void rowsRefused() {
        c.says("BAD: ROW, LANE, n above 40; SIZE.");
        refused("row(8, 0, 1)", x -> x.row(8, 0, 1), BAD);
        refused("row(-1, 0, 1)", x -> x.row(-1, 0, 1), BAD);
        refused("row(0, 3, 1)", x -> x.row(0, 3, 1), BAD);
        refused("row(0, -1, 1)", x -> x.row(0, -1, 1), BAD);
        refused("row(0, 1, 41)", x -> x.row(0, 1, 41), BAD);
        refused("row(4, 1, 41)", x -> x.row(4, 1, 41), BAD);
        refused("row(0, 1, HIGH)", x -> x.row(0, 1, HIGH), BAD);
        refused("row(0, 1, -1)", x -> x.row(0, 1, -1), SIZE);
        refused("row(4, 1, -1)", x -> x.row(4, 1, -1), SIZE);
        refused("row(0, 1, LOW)", x -> x.row(0, 1, LOW), SIZE);
        refused("row(8, 1, -1): BAD first", x -> x.row(8, 1, -1), BAD);
        refused("row(LOW, 1, -1): BAD first", x -> x.row(LOW, 1, -1), BAD);
        refused("row(0, 3, -1): BAD first", x -> x.row(0, 3, -1), BAD);
        refused("row(0, HIGH, LOW): BAD first", x -> x.row(0, HIGH, LOW), BAD);
        c.says("BAD: ROW; NULL; PLACE.");
        refused("set(8, 0, 1)", x -> x.set(8, 0, 1), BAD);
        refused("set(-1, 0, 1)", x -> x.set(-1, 0, 1), BAD);
        refused("set(4, 0, 1)", x -> x.set(4, 0, 1), NULL);
        refused("set(0, 5, 1)", x -> x.set(0, 5, 1), PLACE);
        refused("set(0, -1, 1)", x -> x.set(0, -1, 1), PLACE);
        refused("set(2, 0, 1) of no ITEMS", x -> x.set(2, 0, 1), PLACE);
        refused("set(0, HIGH, 1)", x -> x.set(0, HIGH, 1), PLACE);
        refused("set(0, LOW, 1)", x -> x.set(0, LOW, 1), PLACE);
        refused("set(8, -1, 1): BAD first", x -> x.set(8, -1, 1), BAD);
        refused("set(4, -1, 1): NULL first", x -> x.set(4, -1, 1), NULL);
        c.says("how many ITEMS it had. BAD; NULL.");
        refused("drop(8)", x -> x.drop(8), BAD);
        refused("drop(-1)", x -> x.drop(-1), BAD);
        refused("drop(HIGH)", x -> x.drop(HIGH), BAD);
        refused("drop(4)", x -> x.drop(4), NULL);
        refused("drop(7)", x -> x.drop(7), NULL);
    }

    private static void copyRefused() {
        c.says("BAD: ROWS; NULL; STORE; PLACE (i, j, n below 0, or beyond an end).");
        refused("copy(8, 0, 0, 0, 1)", x -> x.copy(8, 0, 0, 0, 1), BAD);
        refused("copy(0, 0, 8, 0, 1)", x -> x.copy(0, 0, 8, 0, 1), BAD);
        refused("copy(-1, 0, 0, 0, 1)", x -> x.copy(-1, 0, 0, 0, 1), BAD);
        refused("copy(0, 0, -1, 0, 1)", x -> x.copy(0, 0, -1, 0, 1), BAD);
        refused("copy(8, 0, 4, 0, 1): BAD first", x -> x.copy(8, 0, 4, 0, 1), BAD);
        refused("copy(4, 0, -1, 0, 1): BAD first", x -> x.copy(4, 0, -1, 0, 1), BAD);
        refused("copy(0, -1, 8, 0, 1): BAD first", x -> x.copy(0, -1, 8, 0, 1), BAD);
        refused("copy(4, 0, 0, 0, 1)", x -> x.copy(4, 0, 0, 0, 1), NULL);
        refused("copy(0, 0, 4, 0, 1)", x -> x.copy(0, 0, 4, 0, 1), NULL);
        refused("copy(4, -1, 0, 0, 1): NULL first", x -> x.copy(4, -1, 0, 0, 1), NULL);
        refused("copy(0, 0, 4, 0, -1): NULL first", x -> x.copy(0, 0, 4, 0, -1), NULL);
        refused("copy(1, 0, 4, 0, 1): NULL first", x -> x.copy(1, 0, 4, 0, 1), NULL);
        refused("copy(4, 0, 1, 0, 1): NULL first", x -> x.copy(4, 0, 1, 0, 1), NULL);
        refused("copy(0, 0, 1, 0, 1)", x -> x.copy(0, 0, 1, 0, 1), STORE);
        refused("copy(1, 0, 0, 0, 1)", x -> x.copy(1, 0, 0, 0, 1), STORE);
        refused("copy(0, 0, 3, 0, 0)", x -> x.copy(0, 0, 3, 0, 0), STORE);
        refused("copy(0, -1, 1, 0, 1): STORE first", x -> x.copy(0, -1, 1, 0, 1), STORE);
        refused("copy(0, 0, 1, -1, 1): STORE first", x -> x.copy(0, 0, 1, -1, 1), STORE);
        refused("copy(0, 0, 1, 0, -1): STORE first", x -> x.copy(0, 0, 1, 0, -1), STORE);
        refused("copy(0, HIGH, 1, HIGH, HIGH): STORE first", x -> x.copy(0, HIGH, 1, HIGH, HIGH), STORE);
        copyPlaces();
    }

    private static void copyPlaces() {
        refused("copy(0, -1, 0, 0, 1)", x -> x.copy(0, -1, 0, 0, 1), PLACE);
        refused("copy(0, 0, 0, -1, 1)", x -> x.copy(0, 0, 0, -1, 1), PLACE);
        refused("copy(0, 0, 0, 1, -1)", x -> x.copy(0, 0, 0, 1, -1), PLACE);
        refused("copy(0, 1, 0, 0, 5)", x -> x.copy(0, 1, 0, 0, 5), PLACE);
        refused("copy(0, 0, 0, 1, 5)", x -> x.copy(0, 0, 0, 1, 5), PLACE);
        refused("copy(0, 5, 0, 0, 1)", x -> x.copy(0, 5, 0, 0, 1), PLACE);
        refused("copy(0, 0, 0, 5, 1)", x -> x.copy(0, 0, 0, 5, 1), PLACE);
        refused("copy(0, 6, 0, 0, 0)", x -> x.copy(0, 6, 0, 0, 0), PLACE);
        refused("copy(0, 0, 0, 6, 0)", x -> x.copy(0, 0, 0, 6, 0), PLACE);
        refused("copy(0, 6, 0, 0, -1)", x -> x.copy(0, 6, 0, 0, -1), PLACE);
        refused("copy(2, 0, 3, 0, 1) of no ITEMS", x -> x.copy(2, 0, 3, 0, 1), PLACE);
        refused("copy(3, 0, 2, 0, 1) to no ITEMS", x -> x.copy(3, 0, 2, 0, 1), PLACE);
        refused("copy(0, 1, 0, 0, HIGH)", x -> x.copy(0, 1, 0, 0, HIGH), PLACE);
        refused("copy(0, 0, 0, 1, HIGH)", x -> x.copy(0, 0, 0, 1, HIGH), PLACE);
        refused("copy(0, HIGH, 0, 0, 1)", x -> x.copy(0, HIGH, 0, 0, 1), PLACE);
        refused("copy(0, 0, 0, HIGH, 1)", x -> x.copy(0, 0, 0, HIGH, 1), PLACE);
        refused("copy(0, HIGH, 0, HIGH, HIGH)", x -> x.copy(0, HIGH, 0, HIGH, HIGH), PLACE);
        refused("copy(0, LOW, 0, 0, HIGH)", x -> x.copy(0, LOW, 0, 0, HIGH), PLACE);
        refused("copy(0, 0, 0, LOW, 1)", x -> x.copy(0, 0, 0, LOW, 1), PLACE);
        refused("copy(0, 1, 0, 1, LOW)", x -> x.copy(0, 1, 0, 1, LOW), PLACE);
        refused("copy(0, LOW, 0, LOW, LOW)", x -> x.copy(0, LOW, 0, LOW, LOW), PLACE);
    }

    private static void feedRefused() {
        c.says("BAD: n; FULL: none comes.");
        refused("feed(1, 0)", x -> x.feed(1L, 0), BAD);
        refused("feed(1, 9)", x -> x.feed(1L, 9), BAD);
        refused("feed(1, -1)", x -> x.feed(1L, -1), BAD);
        refused("feed(1, LOW)", x -> x.feed(1L, LOW), BAD);
        refused("feed(1, HIGH)", x -> x.feed(1L, HIGH), BAD);
    }

    private static void sailRefused() {
        c.says("BAD; STATE: it has no end there, he may not; FULL: CLOCK.");
        refused("sail(4, 0)", x -> x.sail(4, 0), BAD);
        refused("sail(-1, 0)", x -> x.sail(-1, 0), BAD);
        refused("sail(0, 3)", x -> x.sail(0, 3), BAD);
        refused("sail(0, -1)", x -> x.sail(0, -1), BAD);
        refused("sail(HIGH, LOW)", x -> x.sail(HIGH, LOW), BAD);
        refused("sail(0, 2), no end there", x -> x.sail(0, 2), STATE);
        refused("sail(1, 2), a boy may not", x -> x.sail(1, 2), STATE);
        refused("sail(1, 1), neither an end nor may he", x -> x.sail(1, 1), STATE);
        refused("sail(2, 1) at CLOCK 200", x -> x.sail(2, 1), FULL);
        refused("sail(2, 2) at CLOCK 200", x -> x.sail(2, 2), FULL);
        refused("sail(2, 0) at CLOCK 200: STATE first", x -> x.sail(2, 0), STATE);
        refused("sail(2, 3) at CLOCK 200: BAD first", x -> x.sail(2, 3), BAD);
    }

    private static void sailsRefused() {
        c.says("BAD: ROW, n, PERSON; NULL; PLACE; then BAD: an ITEM that is no WAY.");
        refused("sails(0, 8, 0, 1)", x -> x.sails(0, 8, 0, 1), BAD);
        refused("sails(0, -1, 0, 1)", x -> x.sails(0, -1, 0, 1), BAD);
        refused("sails(0, 0, 0, 0)", x -> x.sails(0, 0, 0, 0), BAD);
        refused("sails(0, 0, 0, -1)", x -> x.sails(0, 0, 0, -1), BAD);
        refused("sails(0, 0, 0, 25): BAD ahead of PLACE", x -> x.sails(0, 0, 0, 25), BAD);
        refused("sails(4, 0, 0, 1)", x -> x.sails(4, 0, 0, 1), BAD);
        refused("sails(-1, 0, 0, 1)", x -> x.sails(-1, 0, 0, 1), BAD);
        refused("sails(0, 4, 0, 0): BAD ahead of NULL", x -> x.sails(0, 4, 0, 0), BAD);
        refused("sails(4, 4, 0, 1): BAD ahead of NULL", x -> x.sails(4, 4, 0, 1), BAD);
        refused("sails(4, 0, 9, 1): BAD ahead of PLACE", x -> x.sails(4, 0, 9, 1), BAD);
        refused("sails(0, 0, HIGH, HIGH): BAD ahead of PLACE", x -> x.sails(0, 0, HIGH, HIGH), BAD);
        refused("sails(0, 4, 0, 1)", x -> x.sails(0, 4, 0, 1), NULL);
        refused("sails(0, 4, -1, 1): NULL first", x -> x.sails(0, 4, -1, 1), NULL);
        refused("sails(0, 0, -1, 1)", x -> x.sails(0, 0, -1, 1), PLACE);
        refused("sails(0, 0, 5, 1)", x -> x.sails(0, 0, 5, 1), PLACE);
        refused("sails(0, 0, 4, 2)", x -> x.sails(0, 0, 4, 2), PLACE);
        refused("sails(0, 0, HIGH, 1)", x -> x.sails(0, 0, HIGH, 1), PLACE);
        refused("sails(0, 0, HIGH, 24)", x -> x.sails(0, 0, HIGH, 24), PLACE);
        refused("sails(0, 0, LOW, 24)", x -> x.sails(0, 0, LOW, 24), PLACE);
        refused("sails(0, 2, 0, 1) of no ITEMS", x -> x.sails(0, 2, 0, 1), PLACE);
        refused("sails(0, 0, 2, 4): PLACE ahead of an ITEM", x -> x.sails(0, 0, 2, 4), PLACE);
        refused("sails(0, 0, 2, 1), ITEM 7", x -> x.sails(0, 0, 2, 1), BAD);
        refused("sails(0, 0, 3, 1), ITEM -1", x -> x.sails(0, 0, 3, 1), BAD);
        refused("sails(0, 0, 0, 3), 7 behind two that he can", x -> x.sails(0, 0, 0, 3), BAD);
        refused("sails(2, 0, 0, 3), 7 behind one that he can't", x -> x.sails(2, 0, 0, 3), BAD);
    }

    private static void actsRefused() {
        c.says("One STAYS n years (1 to 99): his AGE. BAD; FULL: CLOCK.");
        refused("stay(4, 1)", x -> x.stay(4, 1), BAD);
        refused("stay(-1, 1)", x -> x.stay(-1, 1), BAD);
        refused("stay(0, 0)", x -> x.stay(0, 0), BAD);
        refused("stay(0, 100)", x -> x.stay(0, 100), BAD);
        refused("stay(0, HIGH)", x -> x.stay(0, HIGH), BAD);
        refused("stay(0, LOW)", x -> x.stay(0, LOW), BAD);
        refused("stay(2, 1) at CLOCK 200", x -> x.stay(2, 1), FULL);
        refused("stay(2, 0) at CLOCK 200: BAD first", x -> x.stay(2, 0), BAD);
        refused("stay(2, 100) at CLOCK 200: BAD first", x -> x.stay(2, 100), BAD);
        c.says("BAD: alike, too; STATE: they are in two HARBOURS.");
        refused("meet(1, 1)", x -> x.meet(1, 1), BAD);
        refused("meet(4, 4)", x -> x.meet(4, 4), BAD);
        refused("meet(0, 4)", x -> x.meet(0, 4), BAD);
        refused("meet(4, 0)", x -> x.meet(4, 0), BAD);
        refused("meet(-1, 0)", x -> x.meet(-1, 0), BAD);
        refused("meet(0, LOW)", x -> x.meet(0, LOW), BAD);
        refused("meet(0, 1), two HARBOURS", x -> x.meet(0, 1), STATE);
        refused("meet(2, 3), two HARBOURS", x -> x.meet(2, 3), STATE);
        c.says("One BORROWS (1 to 9999): what he owed by the shore's clock. BAD.");
        refused("borrow(4, 1)", x -> x.borrow(4, 1), BAD);
        refused("borrow(-1, 1)", x -> x.borrow(-1, 1), BAD);
        refused("borrow(0, 0)", x -> x.borrow(0, 0), BAD);
        refused("borrow(0, 10000)", x -> x.borrow(0, 10000), BAD);
        refused("borrow(0, LOW)", x -> x.borrow(0, LOW), BAD);
        refused("borrow(0, HIGH)", x -> x.borrow(0, HIGH), BAD);
        c.says("4 OWED by the shore's clock, 5 by his own. BAD.");
        refused("person(4, 0)", x -> x.person(4, 0), BAD);
        refused("person(-1, 0)", x -> x.person(-1, 0), BAD);
        refused("person(0, 6)", x -> x.person(0, 6), BAD);
        refused("person(0, -1)", x -> x.person(0, -1), BAD);
    }

    private static void foretoldRefused() {
        c.says("NONE (1, 2). BAD.");
        refused("gains(4, 0, 0, 0)", x -> x.gains(4, 0, 0, 0), BAD);
        refused("gains(0, 3, 0, 0)", x -> x.gains(0, 3, 0, 0), BAD);
        refused("gains(0, 0, 41, 0)", x -> x.gains(0, 0, 41, 0), BAD);
        refused("gains(0, 0, -1, 0)", x -> x.gains(0, 0, -1, 0), BAD);
        refused("gains(0, 0, 0, 3)", x -> x.gains(0, 0, 0, 3), BAD);
        refused("gains(0, 0, 0, -1)", x -> x.gains(0, 0, 0, -1), BAD);
        c.says("`int soonest(int person, int harbour, int l)`: SOONEST; NONE. BAD.");
        refused("soonest(4, 0, 0)", x -> x.soonest(4, 0, 0), BAD);
        refused("soonest(0, 3, 0)", x -> x.soonest(0, 3, 0), BAD);
        refused("soonest(0, 0, 41)", x -> x.soonest(0, 0, 41), BAD);
        refused("soonest(0, 0, -1)", x -> x.soonest(0, 0, -1), BAD);
        c.says("VOYAGES; NONE. BAD.");
        refused("voyages(4, 0)", x -> x.voyages(4, 0), BAD);
        refused("voyages(0, 3)", x -> x.voyages(0, 3), BAD);
        refused("voyages(0, -1)", x -> x.voyages(0, -1), BAD);
        c.says("EVEN; NONE. BAD: alike, too.");
        refused("even(1, 1, 0)", x -> x.even(1, 1, 0), BAD);
        refused("even(4, 0, 0)", x -> x.even(4, 0, 0), BAD);
        refused("even(0, 4, 0)", x -> x.even(0, 4, 0), BAD);
        refused("even(0, 1, 3)", x -> x.even(0, 1, 3), BAD);
        refused("even(0, 1, -1)", x -> x.even(0, 1, -1), BAD);
        c.says("none, if CLOCK is ahead of his, or more than 40 years behind it. BAD.");
        refused("where(4, 0, 0)", x -> x.where(4, 0, 0), BAD);
        refused("where(0, 201, 0)", x -> x.where(0, 201, 0), BAD);
        refused("where(0, -1, 0)", x -> x.where(0, -1, 0), BAD);
        refused("where(0, 0, 400)", x -> x.where(0, 0, 400), BAD);
        refused("where(0, 0, -1)", x -> x.where(0, 0, -1), BAD);
        c.says("GONE. BAD.");
        refused("gone(4)", x -> x.gone(4), BAD);
        refused("gone(-1)", x -> x.gone(-1), BAD);
        c.says("NONE: nobody. BAD; STATE: no LEAGUE (ahead of BAD).");
        refused("eldest(2)", x -> x.eldest(2), BAD);
        refused("eldest(-1)", x -> x.eldest(-1), BAD);
    }

    private static void askedRefused() {
        c.says("An IMAGE (0, 1) is kept of the LEAGUE: 1. BAD; STATE: no LEAGUE.");
        refused("image(2)", x -> x.image(2), BAD);
        refused("image(-1)", x -> x.image(-1), BAD);
        c.says("(no ACT can be undone then): 1. BAD; STATE: none was kept.");
        refused("restore(2)", x -> x.restore(2), BAD);
        refused("restore(-1)", x -> x.restore(-1), BAD);
        refused("restore(1), not kept", x -> x.restore(1), STATE);
        c.says("The KIND of one, as told (1 to 5). BAD.");
        refused("kind(4)", x -> x.kind(4), BAD);
        refused("kind(-1)", x -> x.kind(-1), BAD);
        c.says("his number. BAD; KIND: he is no such one.");
        refused("as(4, 0)", x -> x.as(4, 0), BAD);
        refused("as(-1, 0)", x -> x.as(-1, 0), BAD);
        refused("as(0, 6)", x -> x.as(0, 6), BAD);
        refused("as(0, -1)", x -> x.as(0, -1), BAD);
        refused("as(4, 5): BAD first", x -> x.as(4, 5), BAD);
        refused("as(0, 5)", x -> x.as(0, 5), KIND);
        c.says("THE TRACE is empty ahead of it (where that is refused it stays).");
        refused("ask(4, 0)", x -> x.ask(4, 0), BAD);
        refused("ask(-1, 0)", x -> x.ask(-1, 0), BAD);
        refused("ask(0, 2)", x -> x.ask(0, 2), BAD);
        refused("ask(0, -1)", x -> x.ask(0, -1), BAD);
        c.says("6 bytes on the tape (3, 5: 0 without a LEAGUE). BAD.");
        refused("count(7)", x -> x.count(7), BAD);
        refused("count(-1)", x -> x.count(-1), BAD);
    }

    private static void questionsChangeNothing() {
        c.says("FORETOLD (nothing changes)");
        asksOnly("gains(0, 1, 40, 0)", x -> x.gains(0, 1, 40, 0), 4);
        asksOnly("gains(1, 2, 40, 1)", x -> x.gains(1, 2, 40, 1), NONE);
        asksOnly("soonest(0, 1, 0)", x -> x.soonest(0, 1, 0), 0);
        asksOnly("soonest(0, 1, 40)", x -> x.soonest(0, 1, 40), NONE);
        asksOnly("voyages(0, 2)", x -> x.voyages(0, 2), 1);
        asksOnly("voyages(1, 2)", x -> x.voyages(1, 2), NONE);
        asksOnly("even(0, 2, 0)", x -> x.even(0, 2, 0), NONE);
        asksOnly("even(0, 1, 1)", x -> x.even(0, 1, 1), NONE);
        asksOnly("where(0, 10, 34)", x -> x.where(0, 10, 34), 2);
        asksOnly("gone(0)", x -> x.gone(0), 0);
        asksOnly("eldest(0)", x -> x.eldest(0), 2);
        asksOnly("eldest(1)", x -> x.eldest(1), 3);
        c.says("Number i of THE TRACE; NONE.");
        asksOnly("trace(3)", x -> x.trace(3), 10);
        asksOnly("trace(4)", x -> x.trace(4), NONE);
        asksOnly("trace(-1)", x -> x.trace(-1), NONE);
        asksOnly("person(0, 3)", x -> x.person(0, 3), 6);
        asksOnly("kind(1)", x -> x.kind(1), 5);
        asksOnly("count(0)", x -> x.count(0), 4);
        asksOnly("fault()", YoungerBack::fault, 0);
        asksOnly("status()", YoungerBack::status, STATUS);
    }

    private static void fullRefused() {
        c.says("BAD: n; FULL: none comes.");
        refused("feed of 5 to 396", x -> x.feed(0x2020202020L, 5), FULL);
        refused("feed of 8 to 396", x -> x.feed(0x2020202020202020L, 8), FULL);
        refused("feed of 9 to 396: BAD first", x -> x.feed(0x2020202020202020L, 9), BAD);
        c.says("BAD; STATE: it has no end there, he may not; FULL: CLOCK.");
        refused("sail(0, 0) of a boy at CLOCK 200: STATE first", x -> x.sail(0, 0), STATE);
        refused("sail(1, 0) of 20 at CLOCK 181, with 24 ACTS", x -> x.sail(1, 0), FULL);
        c.says("One STAYS n years (1 to 99): his AGE. BAD; FULL: CLOCK.");
        refused("stay(1, 20) at CLOCK 181, with 24 ACTS", x -> x.stay(1, 20), FULL);
        c.says("BAD: alike, too; STATE: they are in two HARBOURS.");
        refused("meet(0, 0), with 24 ACTS", x -> x.meet(0, 0), BAD);
    }

    private static void noLeague() {
        c.says("NONE: nobody. BAD; STATE: no LEAGUE (ahead of BAD).");
        refused("eldest(0)", x -> x.eldest(0), STATE);
        refused("eldest(1)", x -> x.eldest(1), STATE);
        refused("eldest(2): STATE first", x -> x.eldest(2), STATE);
        refused("eldest(LOW): STATE first", x -> x.eldest(LOW), STATE);
        c.says("An IMAGE (0, 1) is kept of the LEAGUE: 1. BAD; STATE: no LEAGUE.");
        refused("image(0)", x -> x.image(0), STATE);
        refused("image(1)", x -> x.image(1), STATE);
        refused("image(2): BAD first", x -> x.image(2), BAD);
        refused("image(-1): BAD first", x -> x.image(-1), BAD);
        c.says("(no ACT can be undone then): 1. BAD; STATE: none was kept.");
        refused("restore(0)", x -> x.restore(0), STATE);
        refused("restore(1)", x -> x.restore(1), STATE);
        refused("restore(2): BAD first", x -> x.restore(2), BAD);
        c.says("The latest ACT is undone: how many can be undone yet. STATE: none.");
        refused("undo()", YoungerBack::undo, STATE);
        c.says("BAD (a number is not as told; there is no such thing)");
        refused("sail(0, 0)", x -> x.sail(0, 0), BAD);
        refused("sails(0, 0, 0, 1)", x -> x.sails(0, 0, 0, 1), BAD);
        refused("sails(0, 4, 0, 1)", x -> x.sails(0, 4, 0, 1), BAD);
        refused("stay(0, 1)", x -> x.stay(0, 1), BAD);
        refused("meet(0, 1)", x -> x.meet(0, 1), BAD);
        refused("borrow(0, 1)", x -> x.borrow(0, 1), BAD);
        refused("person(0, 0)", x -> x.person(0, 0), BAD);
        refused("gains(0, 0, 0, 0)", x -> x.gains(0, 0, 0, 0), BAD);
        refused("soonest(0, 0, 0)", x -> x.soonest(0, 0, 0), BAD);
        refused("voyages(0, 0)", x -> x.voyages(0, 0), BAD);
        refused("even(0, 1, 0)", x -> x.even(0, 1, 0), BAD);
        refused("where(0, 0, 0)", x -> x.where(0, 0, 0), BAD);
        refused("gone(0)", x -> x.gone(0), BAD);
        refused("kind(0)", x -> x.kind(0), BAD);
        refused("as(0, 0)", x -> x.as(0, 0), BAD);
        refused("ask(0, 0)", x -> x.ask(0, 0), BAD);
        refused("trace(0)", x -> x.trace(0), NONE);
    }

    private static void nothingYet() {
        c.says("NONE: nobody. BAD; STATE: no LEAGUE (ahead of BAD).");
        refused("eldest(0) of nobody", x -> x.eldest(0), NONE);
        refused("eldest(1) of nobody", x -> x.eldest(1), NONE);
        refused("eldest(2) of nobody: BAD ahead of NONE", x -> x.eldest(2), BAD);
        c.says("The latest ACT is undone: how many can be undone yet. STATE: none.");
        refused("undo()", YoungerBack::undo, STATE);
        c.says("(no ACT can be undone then): 1. BAD; STATE: none was kept.");
        refused("restore(0)", x -> x.restore(0), STATE);
        c.says("BAD (a number is not as told; there is no such thing)");
        refused("sail(0, 0)", x -> x.sail(0, 0), BAD);
        refused("voyages(0, 0)", x -> x.voyages(0, 0), BAD);
        refused("kind(0)", x -> x.kind(0), BAD);
    }
}
