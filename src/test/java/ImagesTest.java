/** Promises 23 and 24: image, restore. */
public final class ImagesTest {
    private static final Checks c = new Checks("ImagesTest");

    public static void main(String[] args) {
        refused();
        kept();
        c.end();
    }

    private static void refused() {
        YoungerBack x = new YoungerBack();
        c.due("k 2, ahead of STATE", x.image(2), Checks.BAD);
        c.due("k -1", x.image(-1), Checks.BAD);
        c.due("no league", x.image(1), Checks.STATE);
        c.due("k 2", x.restore(2), Checks.BAD);
        c.due("k -1", x.restore(-1), Checks.BAD);
        c.due("none was kept", x.restore(0), Checks.STATE);
        Checks.read(x, "law 2 0;");
        c.due("none was kept", x.restore(0), Checks.STATE);
        c.due("kept", x.image(0), 1);
        c.due("the other one was not", x.restore(1), Checks.STATE);
        c.due("restored", x.restore(0), 1);
    }

    private static void kept() {
        YoungerBack x = Checks.with("law 2 10;way 0 1 5 1;person captain 0 30;person clerk 1 20;");
        x.sail(0, 0);
        x.borrow(0, 1000);
        x.stay(0, 2);
        c.due("image", x.image(0), 1);
        c.due("acts stay", x.count(4), 3);
        x.sail(0, 0);
        c.due("image", x.image(1), 1);
        Checks.read(x, "law 3 0;way 1 2 9 9;way 0 2 8 8;person monk 2 9;");
        c.due("stay", x.stay(0, 1), 10);
        c.due("restore", x.restore(0), 1);
        c.person(x, 0, 1, 7, 33, 4, 1210, 1210);
        c.person(x, 1, 1, 0, 20, 0, 0, 0);
        c.due("kind", x.kind(0), 1);
        c.due("people", x.count(1), 2);
        c.due("ways", x.count(2), 1);
        c.due("harbours", x.count(3), 2);
        c.due("rate", x.count(5), 10);
        c.due("no act can be undone", x.count(4), 0);
        c.due("no act can be undone", x.undo(), Checks.STATE);
        c.due("its way", x.sail(1, 0), 0);
        c.person(x, 1, 0, 5, 25, 0);
        c.due("restore again: the image is not changed", x.restore(0), 1);
        c.person(x, 1, 1, 0, 20, 0);
        c.due("the other one", x.restore(1), 1);
        c.person(x, 0, 0, 12, 34, 8, 1948, 1331);
        x.stay(1, 9);
        c.due("in place of what it kept", x.image(0), 1);
        x.undo();
        x.restore(0);
        c.person(x, 1, 1, 9, 29, 0);
    }
}
