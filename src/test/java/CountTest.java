/** Promises 29 and 30: count, status. */
public final class CountTest {
    private static final Checks c = new Checks("CountTest");

    public static void main(String[] args) {
        count();
        status();
        c.end();
    }

    private static void count() {
        YoungerBack x = new YoungerBack();
        c.due("what 7", x.count(7), Checks.BAD);
        c.due("what -1", x.count(-1), Checks.BAD);
        for (int row = 0; row < 8; row++) {
            c.due("rows", x.count(0), row);
            x.row(row, 0, 0);
        }
        c.due("rows", x.count(0), 8);
        x.drop(3);
        c.due("rows", x.count(0), 7);
        Checks.feed(x, "law 4 7;way 0 1 2 1;");
        c.due("no league yet", x.count(3), 0);
        c.due("no league yet", x.count(5), 0);
        c.due("bytes", x.count(6), 20);
        Checks.read(x, "person clerk 3 4;");
        int[] want = {7, 1, 1, 4, 0, 7, 0};
        for (int what = 0; what <= 6; what++) {
            c.due("count " + what, x.count(what), want[what]);
        }
        x.stay(0, 1);
        c.due("acts", x.count(4), 1);
        x.undo();
        c.due("acts", x.count(4), 0);
    }

    private static void status() {
        YoungerBack x = Checks.with("law 2 0;way 0 1 1 1;person clerk 0 4;");
        c.due("none yet", x.status(), 0);
        x.set(0, 0, 0);
        c.due("NULL", x.status(), 1);
        x.stay(0, 1);
        x.count(9);
        x.kind(0);
        x.undo();
        x.undo();
        c.due("of others it is not", x.status(), 1);
        x.as(0, 2);
        c.due("KIND", x.status(), 3);
        x.as(0, 9);
        c.due("BAD", x.status(), 3);
        x.as(0, 4);
        c.due("none", x.status(), 0);
        x.row(0, 0, -5);
        c.due("SIZE", x.status(), 4);
        x.row(0, 0, 1);
        c.due("none", x.status(), 0);
        x.row(1, 1, 1);
        x.copy(0, 0, 1, 0, 1);
        c.due("STORE", x.status(), 5);
        x.sails(0, 0, 0, 1);
        c.due("none", x.status(), 0);
        x.sails(0, 0, 1, 1);
        c.due("PLACE", x.status(), 2);
        x.sails(0, 0, 0, 0);
        c.due("BAD", x.status(), 2);
    }
}
