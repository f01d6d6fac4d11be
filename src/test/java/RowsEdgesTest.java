/** The edges of ROWS: what is there and missing, ITEMS that are copied onto their own, what status() tells of. */
public final class RowsEdgesTest {
    private static final Checks c = new Checks("RowsEdgesTest");
    /** Way k takes k + 1 years: by how much later one is behind it tells which ITEM it was. */
    private static final String EIGHT_WAYS = "law 2 0;way 0 1 1 0;way 0 1 2 0;way 0 1 3 0;way 0 1 4 0;way 0 1 5 0;"
        + "way 0 1 6 0;way 0 1 7 0;way 0 1 8 0;person captain 0 0;";

    private interface Call {
        int of(YoungerBack x);
    }

    public static void main(String[] args) {
        missingAtFirst();
        itemsAt0AtFirst();
        inPlaceOfWhatIsThere();
        lanesOfItems();
        eachRowIsItsOwn();
        copyOntoItself();
        copyToAnother();
        dropAndAnew();
        statusOfRows();
        statusOfNoOthers();
        statusStaysBehindRefusals();
        leaguesLeaveRows();
        c.end();
    }

    /** ITEM i of a ROW, that is a WAY of the eight; -1: it is none of them. */
    private static int item(YoungerBack x, int row, int i) {
        int ahead = x.person(0, 1);
        if (x.sails(0, row, i, 1) != 1) {
            return -1;
        }
        int way = x.person(0, 1) - ahead - 1;
        x.undo();
        return way;
    }

    private static void items(String what, YoungerBack x, int row, int... want) {
        for (int i = 0; i < want.length; i++) {
            c.due(what + ": ITEM " + i, item(x, row, i), want[i]);
        }
        c.due(what + ": none behind", x.sails(0, row, want.length, 1), Checks.PLACE);
    }

    private static void missingAtFirst() {
        c.says("ROWS 0 .. 7 are missing (at first)");
        YoungerBack x = Checks.with(EIGHT_WAYS);
        for (int row = 0; row < 8; row++) {
            c.due("set", x.set(row, 0, 0), Checks.NULL);
            c.due("copy", x.copy(row, 0, row, 0, 0), Checks.NULL);
            c.due("sails", x.sails(0, row, 0, 1), Checks.NULL);
            c.due("drop", x.drop(row), Checks.NULL);
            c.due("rows", x.count(0), row);
            c.due("row", x.row(row, row % 3, row), row);
            c.due("rows", x.count(0), row + 1);
            c.due("copy of none", x.copy(row, row, row, 0, 0), 0);
        }
    }

    private static void itemsAt0AtFirst() {
        c.says("0 to 40 ITEMS, 0 at first.");
        for (int lane = 0; lane <= 2; lane++) {
            YoungerBack x = Checks.with(EIGHT_WAYS);
            x.row(0, lane, 40);
            for (int i = 0; i < 40; i++) {
                c.due("ITEM " + i + " of LANE " + lane, item(x, 0, i), 0);
            }
            c.due("ITEM 40", x.sails(0, 0, 40, 1), Checks.PLACE);
        }
    }

    private static void inPlaceOfWhatIsThere() {
        c.says("A ROW of a LANE with n ITEMS, in place of what is there: n.");
        YoungerBack x = Checks.with(EIGHT_WAYS);
        Checks.rowOf(x, 2, 7, 6, 5, 4);
        c.due("of as many", x.row(2, 2, 4), 4);
        items("of as many", x, 2, 0, 0, 0, 0);
        Checks.rowOf(x, 2, 7, 6, 5, 4);
        c.due("of fewer", x.row(2, 1, 2), 2);
        items("of fewer", x, 2, 0, 0);
        c.due("of more", x.row(2, 1, 5), 5);
        items("of more", x, 2, 0, 0, 0, 0, 0);
        x.set(2, 4, 3);
        c.due("of none", x.row(2, 0, 0), 0);
        items("of none", x, 2);
        c.due("of more again", x.row(2, 2, 5), 5);
        items("of more again", x, 2, 0, 0, 0, 0, 0);
        c.due("of another LANE", x.set(2, 4, 70000), 70000);
        c.due("rows", x.count(0), 1);
        Checks.rowOf(x, 2, 7, 6);
        c.due("a SIZE that is found", x.row(2, 0, -1), Checks.SIZE);
        items("a SIZE that is found", x, 2, 7, 6);
        c.due("its LANE, too", x.set(2, 0, 300), 300);
    }

    private static void lanesOfItems() {
        c.says("ITEM i becomes v, its lowest bits, as many as the LANE has (read with their sign): what it is then.");
        YoungerBack x = Checks.with(EIGHT_WAYS);
        for (int lane = 0; lane <= 2; lane++) {
            x.row(lane, lane, 3);
            x.set(lane, 0, 0x100 + 3);
            x.set(lane, 1, 0x10000 + 5);
            x.set(lane, 2, Integer.MIN_VALUE + 7);
        }
        items("bytes", x, 0, 3, 5, 7);
        items("shorts", x, 1, -1, 5, 7);
        items("ints", x, 2, -1, -1, -1);
    }

    private static void eachRowIsItsOwn() {
        YoungerBack x = Checks.with(EIGHT_WAYS);
        for (int row = 0; row < 8; row++) {
            Checks.rowOf(x, row, row, 7 - row);
        }
        for (int row = 0; row < 8; row++) {
            items("ROW " + row, x, row, row, 7 - row);
        }
        x.drop(3);
        x.row(5, 0, 1);
        items("ROW 2", x, 2, 2, 5);
        items("ROW 4", x, 4, 4, 3);
        items("ROW 5", x, 5, 0);
        items("ROW 6", x, 6, 6, 1);
    }

    private static void copyOntoItself() {
        c.says("n ITEMS of a from i on come to b from j on, as they were ahead: n.");
        for (int i = 0; i <= 6; i++) {
            for (int j = 0; j <= 6; j++) {
                for (int n = 0; n <= 6 - Math.max(i, j); n++) {
                    YoungerBack x = Checks.with(EIGHT_WAYS);
                    Checks.rowOf(x, 0, 1, 2, 3, 4, 5, 6);
                    int[] want = {1, 2, 3, 4, 5, 6};
                    for (int k = 0; k < n; k++) {
                        want[j + k] = i + k + 1;
                    }
                    String call = "copy(0, " + i + ", 0, " + j + ", " + n + ")";
                    c.due(call, x.copy(0, i, 0, j, n), n);
                    items(call, x, 0, want);
                }
            }
        }
    }

    private static void copyToAnother() {
        for (int lane = 0; lane <= 2; lane++) {
            YoungerBack x = Checks.with(EIGHT_WAYS);
            x.row(0, lane, 3);
            x.row(7, lane, 40);
            x.set(0, 0, 5);
            x.set(0, 1, 6);
            x.set(0, 2, 7);
            c.due("to the first", x.copy(0, 0, 7, 0, 3), 3);
            c.due("to the last", x.copy(0, 1, 7, 38, 2), 2);
            c.due("the source stays", item(x, 0, 0), 5);
            c.due("first", item(x, 7, 0), 5);
            c.due("third", item(x, 7, 2), 7);
            c.due("behind", item(x, 7, 3), 0);
            c.due("ahead", item(x, 7, 37), 0);
            c.due("last but one", item(x, 7, 38), 6);
            c.due("last", item(x, 7, 39), 7);
            c.due("back", x.copy(7, 39, 0, 0, 1), 1);
            items("back", x, 0, 7, 6, 7);
            c.due("none", x.copy(7, 40, 0, 3, 0), 0);
            items("none", x, 0, 7, 6, 7);
        }
    }

    private static void dropAndAnew() {
        c.says("A ROW is missing from now on: how many ITEMS it had.");
        YoungerBack x = Checks.with(EIGHT_WAYS);
        for (int n = 0; n <= 40; n++) {
            x.row(n % 8, n % 3, n);
            c.due("drop of " + n, x.drop(n % 8), n);
            c.due("missing", x.drop(n % 8), Checks.NULL);
            c.due("rows", x.count(0), 0);
        }
        Checks.rowOf(x, 1, 5, 6, 7);
        x.drop(1);
        x.row(1, 2, 3);
        items("anew", x, 1, 0, 0, 0);
    }

    private static YoungerBack withStatus(int status) {
        YoungerBack x = Checks.with("law 2 9;way 0 1 20 4;person captain 0 30;person clerk 0 50;");
        x.row(0, 0, 3);
        x.row(1, 1, 3);
        switch (status) {
            case 1: x.set(5, 0, 0); break;
            case 2: x.set(0, 3, 0); break;
            case 3: x.as(0, 5); break;
            case 4: x.row(0, 0, -1); break;
            case 5: x.copy(0, 0, 1, 0, 1); break;
            default: x.set(0, 0, 0); break;
        }
        c.due("status()", x.status(), status);
        return x;
    }

    private static void leaves(String call, Call asked, int due, int status) {
        for (int before = 0; before <= 5; before++) {
            YoungerBack x = withStatus(before);
            c.due(call, asked.of(x), due);
            c.due("status() of " + before + " behind " + call, x.status(), status < 0 ? before : status);
        }
    }

    private static void statusOfRows() {
        c.says("Of the latest call with a ROW, or as(), that was not BAD, STATE, FULL: the number of its FINDING; 0: it had none, or there was none.");
        leaves("row()", x -> x.row(0, 0, 3), 3, 0);
        leaves("row() of none", x -> x.row(0, 0, 0), 0, 0);
        leaves("set()", x -> x.set(0, 0, 9), 9, 0);
        leaves("set() of -1000014", x -> x.set(7, 0, -1000014), Checks.NULL, 1);
        leaves("copy()", x -> x.copy(0, 0, 0, 1, 2), 2, 0);
        leaves("copy() of none", x -> x.copy(0, 0, 0, 0, 0), 0, 0);
        leaves("drop()", x -> x.drop(0), 3, 0);
        leaves("sails()", x -> x.sails(0, 0, 0, 3), 3, 0);
        leaves("as()", x -> x.as(1, 4), 1, 0);
        leaves("row(), SIZE", x -> x.row(0, 0, -1), Checks.SIZE, 4);
        leaves("set(), NULL", x -> x.set(2, 0, 0), Checks.NULL, 1);
        leaves("set(), PLACE", x -> x.set(0, 3, 0), Checks.PLACE, 2);
        leaves("copy(), NULL", x -> x.copy(0, 0, 2, 0, 0), Checks.NULL, 1);
        leaves("copy(), STORE", x -> x.copy(0, 0, 1, 0, 0), Checks.STORE, 5);
        leaves("copy(), PLACE", x -> x.copy(0, 0, 0, 0, 4), Checks.PLACE, 2);
        leaves("drop(), NULL", x -> x.drop(2), Checks.NULL, 1);
        leaves("sails(), NULL", x -> x.sails(0, 2, 0, 1), Checks.NULL, 1);
        leaves("sails(), PLACE", x -> x.sails(0, 0, 3, 1), Checks.PLACE, 2);
        leaves("as(), KIND", x -> x.as(1, 1), Checks.KIND, 3);
        YoungerBack ints = new YoungerBack();
        ints.row(0, 2, 1);
        c.due("set() of what is no FINDING", ints.set(0, 0, Checks.SIZE), Checks.SIZE);
        c.due("status()", ints.status(), 0);
    }

    private static void statusOfNoOthers() {
        leaves("feed()", x -> x.feed(0L, 1), 1, -1);
        leaves("league()", x -> Checks.read(x, "law 1 0;person boy 0 0;"), 1, -1);
        leaves("league(), a FAULT", YoungerBack::league, -1000100, -1);
        leaves("fault()", YoungerBack::fault, 0, -1);
        leaves("sail()", x -> x.sail(0, 0), 1, -1);
        leaves("stay()", x -> x.stay(0, 1), 31, -1);
        leaves("meet()", x -> x.meet(0, 1), -20, -1);
        leaves("borrow()", x -> x.borrow(0, 1), 0, -1);
        leaves("undo()", YoungerBack::undo, Checks.STATE, -1);
        leaves("person()", x -> x.person(0, 2), 30, -1);
        leaves("gains()", x -> x.gains(0, 0, 0, 0), 1, -1);
        leaves("soonest()", x -> x.soonest(0, 1, 16), 20, -1);
        leaves("voyages()", x -> x.voyages(0, 1), 1, -1);
        leaves("even()", x -> x.even(0, 1, 0), Checks.NONE, -1);
        leaves("where()", x -> x.where(0, 0, 30), 1, -1);
        leaves("gone()", x -> x.gone(0), 0, -1);
        leaves("eldest()", x -> x.eldest(0), 1, -1);
        leaves("image()", x -> x.image(0), 1, -1);
        leaves("restore()", x -> x.restore(0), Checks.STATE, -1);
        leaves("kind()", x -> x.kind(1), 4, -1);
        leaves("ask()", x -> x.ask(1, 0), -50, -1);
        leaves("trace()", x -> x.trace(0), Checks.NONE, -1);
        leaves("count()", x -> x.count(0), 2, -1);
    }

    private static void statusStaysBehindRefusals() {
        leaves("row(), BAD", x -> x.row(8, 0, 0), Checks.BAD, -1);
        leaves("set(), BAD", x -> x.set(8, 0, 0), Checks.BAD, -1);
        leaves("copy(), BAD", x -> x.copy(8, 0, 0, 0, 0), Checks.BAD, -1);
        leaves("drop(), BAD", x -> x.drop(8), Checks.BAD, -1);
        leaves("sails(), BAD", x -> x.sails(0, 0, 0, 0), Checks.BAD, -1);
        leaves("as(), BAD", x -> x.as(0, 6), Checks.BAD, -1);
        leaves("sails(), BAD by an ITEM", RowsEdgesTest::sailsNoWay, Checks.BAD, -1);
    }

    /** ROW 1 holds a 1, which is no WAY: so that its status() is told anew, the one before is made anew, too. */
    private static int sailsNoWay(YoungerBack x) {
        int before = x.status();
        x.set(1, 1, 1);
        switch (before) {
            case 1: x.drop(5); break;
            case 2: x.set(0, 3, 0); break;
            case 3: x.as(0, 5); break;
            case 4: x.row(0, 0, -1); break;
            case 5: x.copy(0, 0, 1, 0, 1); break;
            default: break;
        }
        return x.sails(0, 1, 0, 3);
    }

    private static void leaguesLeaveRows() {
        c.says("IMAGES and ROWS stay.");
        YoungerBack x = Checks.with(EIGHT_WAYS);
        Checks.rowOf(x, 0, 3, 7);
        x.image(0);
        x.set(0, 0, 4);
        Checks.read(x, EIGHT_WAYS);
        items("behind a LEAGUE", x, 0, 4, 7);
        x.restore(0);
        items("behind an IMAGE", x, 0, 4, 7);
        x.sail(0, 0);
        x.set(0, 1, 2);
        x.undo();
        items("behind undo()", x, 0, 4, 2);
        Checks.read(x, "law");
        items("behind a FAULT", x, 0, 4, 2);
        c.due("rows", x.count(0), 1);
    }
}
