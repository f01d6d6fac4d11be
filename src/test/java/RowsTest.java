/** Promises 1 to 5: a new object, row, set, copy, drop; and status() of these (30). */
public final class RowsTest {
    private static final Checks c = new Checks("RowsTest");

    public static void main(String[] args) {
        newObject();
        row();
        set();
        copy();
        copyFindings();
        drop();
        c.end();
    }

    private static void newObject() {
        YoungerBack x = new YoungerBack();
        for (int what = 0; what <= 6; what++) {
            c.due("new count " + what, x.count(what), 0);
        }
        for (int row = 0; row < 8; row++) {
            c.due("new row is missing", x.drop(row), Checks.NULL);
        }
        c.due("new status", new YoungerBack().status(), 0);
        c.due("new fault", x.fault(), 0);
        c.due("new trace", x.trace(0), Checks.NONE);
        c.due("new eldest", x.eldest(0), Checks.STATE);
        c.due("new image", x.image(0), Checks.STATE);
        c.due("new restore", x.restore(1), Checks.STATE);
        c.due("new undo", x.undo(), Checks.STATE);
        c.due("new kind", x.kind(0), Checks.BAD);
    }

    private static void row() {
        YoungerBack x = new YoungerBack();
        c.due("row", x.row(0, 0, 3), 3);
        c.due("row of none", x.row(7, 2, 0), 0);
        c.due("row of most", x.row(3, 1, 40), 40);
        c.due("rows", x.count(0), 3);
        c.due("last of most", x.set(3, 39, 5), 5);
        c.due("in place", x.row(3, 2, 40), 40);
        c.due("rows", x.count(0), 3);
        x.set(0, 0, 5);
        x.set(0, 2, 5);
        x.row(0, 0, 3);
        c.due("item 39 is 0 again", itemAsWay(x, 3, 39), 0);
        c.due("item 0 is 0 again", itemAsWay(x, 0, 0), 0);
        c.due("item 2 is 0 again", itemAsWay(x, 0, 2), 0);
        c.due("row -1", x.row(-1, 0, 1), Checks.BAD);
        c.due("row 8", x.row(8, 0, 1), Checks.BAD);
        c.due("lane -1", x.row(0, -1, 1), Checks.BAD);
        c.due("lane 3", x.row(0, 3, -1), Checks.BAD);
        c.due("n 41", x.row(0, 0, 41), Checks.BAD);
        c.due("status is not of BAD", x.status(), 0);
        c.due("n -1", x.row(0, 0, -1), Checks.SIZE);
        c.due("status", x.status(), 4);
        c.due("n 41 again", x.row(0, 0, 41), Checks.BAD);
        c.due("status stays", x.status(), 4);
        c.due("found: the row stays", x.drop(0), 3);
        c.due("status", x.status(), 0);
        c.due("n least", x.row(0, 0, Integer.MIN_VALUE), Checks.SIZE);
        c.due("found: still missing", x.drop(0), Checks.NULL);
    }

    /** An item read by what sails() does with it: with a single way, 0 is a way, others are none. */
    private static int itemAsWay(YoungerBack x, int row, int i) {
        Checks.read(x, "law 2 0; way 0 1 1 1; person captain 0 0;");
        return x.sails(0, row, i, 1) == 1 ? 0 : -1;
    }

    private static void set() {
        YoungerBack x = new YoungerBack();
        x.row(0, 0, 2);
        x.row(1, 1, 2);
        x.row(2, 2, 2);
        c.due("byte", x.set(0, 0, 127), 127);
        c.due("byte", x.set(0, 0, 128), -128);
        c.due("byte", x.set(0, 1, -129), 127);
        c.due("byte", x.set(0, 1, 256), 0);
        c.due("short", x.set(1, 0, 32767), 32767);
        c.due("short", x.set(1, 1, 32768), -32768);
        c.due("short", x.set(1, 1, 65535), -1);
        c.due("int", x.set(2, 0, Integer.MIN_VALUE), Integer.MIN_VALUE);
        c.due("int", x.set(2, 1, 70000), 70000);
        c.due("row 8", x.set(8, 0, 0), Checks.BAD);
        c.due("row -1", x.set(-1, 0, 0), Checks.BAD);
        c.due("status", x.status(), 0);
        c.due("missing", x.set(5, 9, 0), Checks.NULL);
        c.due("status", x.status(), 1);
        c.due("place -1", x.set(0, -1, 0), Checks.PLACE);
        c.due("status", x.status(), 2);
        c.due("place at the end", x.set(0, 2, 0), Checks.PLACE);
        c.due("place far", x.set(0, Integer.MAX_VALUE, 0), Checks.PLACE);
        c.due("set", x.set(0, 0, 1), 1);
        c.due("status", x.status(), 0);
    }

    /** Two rows of ways copied and then sailed tell what the items are. */
    private static void copy() {
        YoungerBack x = Checks.with("law 5 0; way 0 1 1 1; way 1 2 1 1; way 2 3 1 1; way 3 4 1 1; person captain 0 0;");
        Checks.rowOf(x, 0, 0, 1, 2, 3);
        x.row(1, 2, 6);
        c.due("copy", x.copy(0, 0, 1, 2, 4), 4);
        c.due("sails what came", x.sails(0, 1, 2, 4), 4);
        c.due("at", x.person(0, 0), 4);
        Checks.rowOf(x, 2, 3, 2, 1, 0, 0, 0);
        c.due("copy onto itself, forwards", x.copy(2, 0, 2, 2, 4), 4);
        c.due("as they were ahead", x.sails(0, 2, 2, 4), 4);
        c.due("at", x.person(0, 0), 0);
        Checks.rowOf(x, 2, 9, 0, 1, 2, 3);
        c.due("copy onto itself, backwards", x.copy(2, 1, 2, 0, 4), 4);
        c.due("as they were ahead", x.sails(0, 2, 0, 4), 4);
        c.due("at", x.person(0, 0), 4);
        c.due("the source stays", x.sails(0, 0, 3, 1), 1);
        c.due("at", x.person(0, 0), 3);
        c.due("none at an end", x.copy(0, 4, 1, 6, 0), 0);
    }

    private static void copyFindings() {
        YoungerBack x = new YoungerBack();
        x.row(0, 0, 4);
        x.row(1, 1, 4);
        x.row(2, 0, 40);
        c.due("a 8", x.copy(8, 0, 3, 0, 1), Checks.BAD);
        c.due("b -1", x.copy(3, 0, -1, 0, 1), Checks.BAD);
        c.due("a missing", x.copy(3, 0, 0, 0, -1), Checks.NULL);
        c.due("status", x.status(), 1);
        c.due("b missing", x.copy(0, 0, 3, 0, 1), Checks.NULL);
        c.due("two lanes ahead of places", x.copy(0, -1, 1, 9, 1), Checks.STORE);
        c.due("status", x.status(), 5);
        c.due("two lanes, none to copy", x.copy(0, 0, 1, 0, 0), Checks.STORE);
        c.due("i -1", x.copy(0, -1, 2, 0, 1), Checks.PLACE);
        c.due("status", x.status(), 2);
        c.due("j -1", x.copy(0, 0, 2, -1, 1), Checks.PLACE);
        c.due("n -1", x.copy(0, 0, 2, 0, -1), Checks.PLACE);
        c.due("beyond a", x.copy(0, 1, 2, 0, 4), Checks.PLACE);
        c.due("beyond b", x.copy(2, 0, 0, 1, 4), Checks.PLACE);
        c.due("far", x.copy(0, Integer.MAX_VALUE, 2, 0, Integer.MAX_VALUE), Checks.PLACE);
        c.due("far", x.copy(0, 1, 2, Integer.MAX_VALUE, 1), Checks.PLACE);
        c.due("to the ends", x.copy(0, 0, 2, 36, 4), 4);
        c.due("status", x.status(), 0);
    }

    private static void drop() {
        YoungerBack x = new YoungerBack();
        x.row(4, 1, 17);
        x.row(5, 1, 0);
        c.due("drop", x.drop(4), 17);
        c.due("drop of none", x.drop(5), 0);
        c.due("rows", x.count(0), 0);
        c.due("drop again", x.drop(4), Checks.NULL);
        c.due("status", x.status(), 1);
        c.due("drop 8", x.drop(8), Checks.BAD);
        c.due("drop -1", x.drop(-1), Checks.BAD);
        c.due("status stays", x.status(), 1);
        c.due("set of a dropped one", x.set(4, 0, 0), Checks.NULL);
        c.due("row again", x.row(4, 0, 1), 1);
        c.due("status", x.status(), 0);
    }
}
