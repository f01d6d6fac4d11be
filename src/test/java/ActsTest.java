/** Promises 9 to 15: sail, sails, stay, meet, borrow, undo, person. */
public final class ActsTest {
    private static final String ALL = "law 3 10;way 0 1 10 4;way 1 2 11 0;way 0 2 20 20;";
    private static final Checks c = new Checks("ActsTest");

    public static void main(String[] args) {
        sailByKind();
        sailRefused();
        sails();
        sailsRefused();
        stay();
        meet();
        meetOfTheLess();
        borrow();
        owed();
        undo();
        undoForgets();
        person();
        c.end();
    }

    private static void sailByKind() {
        YoungerBack x = Checks.with(ALL + "person captain 0 30;person pilot 0 30;person monk 0 30;person clerk 0 30;");
        int[] ages = {34, 33, 30, 40};
        for (int p = 0; p < 4; p++) {
            c.due("sail", x.sail(p, 0), 1);
            c.person(x, p, 1, 10, ages[p], 40 - ages[p], 0, 0);
            c.due("sail on", x.sail(p, 1), 2);
        }
        c.person(x, 0, 2, 21, 34, 17);
        c.person(x, 1, 2, 21, 33, 18);
        c.person(x, 2, 2, 21, 30, 21);
        c.person(x, 3, 2, 21, 51, 0);
        c.due("back", x.sail(1, 2), 0);
        c.person(x, 1, 0, 41, 52, 19);
        c.due("acts", x.count(4), 9);
    }

    private static void sailRefused() {
        YoungerBack x = Checks.with(ALL + "person boy 0 7;person monk 2 7;");
        c.due("nobody", x.sail(2, 0), Checks.BAD);
        c.due("nobody", x.sail(-1, 0), Checks.BAD);
        c.due("no way", x.sail(0, 3), Checks.BAD);
        c.due("no way", x.sail(0, -1), Checks.BAD);
        c.due("no end there", x.sail(0, 1), Checks.STATE);
        c.due("no end there", x.sail(1, 0), Checks.STATE);
        c.due("a boy may not 20", x.sail(0, 2), Checks.STATE);
        c.due("a boy may 10", x.sail(0, 0), 1);
        c.person(x, 0, 1, 10, 11, 6);
        c.due("a boy may not 11", x.sail(0, 1), Checks.STATE);
        for (int k = 0; k < 9; k++) {
            x.sail(1, 2);
        }
        c.due("to 200", x.sail(1, 2), 2);
        c.person(x, 1, 2, 200, 7, 200);
        c.due("beyond 200", x.sail(1, 1), Checks.FULL);
        c.due("STATE ahead of FULL", x.sail(1, 0), Checks.STATE);
        c.due("acts", x.count(4), 11);
        c.due("undo one", x.undo(), 10);
        c.due("stay to 189", x.stay(1, 9), 16);
        c.due("189 and 11 is 200", x.sail(1, 2), Checks.FULL);
        c.due("status is not of sail", x.status(), 0);
    }

    private static void sails() {
        YoungerBack x = Checks.with(ALL + "person captain 0 30;person boy 0 3;person monk 0 0;");
        Checks.rowOf(x, 0, 2, 0, 1, 2, 0, 0);
        c.due("three round", x.sails(0, 0, 1, 3), 3);
        c.person(x, 0, 0, 41, 54, 17);
        c.due("an act each", x.count(4), 3);
        c.due("undo one of them", x.undo(), 2);
        c.person(x, 0, 2, 21, 34, 17);
        c.due("not at all", x.sails(0, 0, 1, 3), 0);
        c.due("none kept", x.count(4), 2);
        c.due("as long as he may", x.sails(1, 0, 1, 5), 1);
        c.person(x, 1, 1, 10, 7, 6);
        c.due("status", x.status(), 0);
        x.row(1, 0, 40);
        c.due("as long as CLOCK goes", x.sails(2, 1, 0, 24), 20);
        c.person(x, 2, 0, 200, 0, 200);
        c.due("acts", x.count(4), 23);
        c.due("to the end of the row", x.sails(0, 0, 5, 1), 0);
        YoungerBack y = Checks.with("law 2 0;way 0 1 1 1;person captain 0 0;");
        y.row(7, 1, 40);
        c.due("24 at once", y.sails(0, 7, 16, 24), 24);
        c.person(y, 0, 0, 24, 24, 0);
    }

    private static void sailsRefused() {
        YoungerBack x = Checks.with(ALL + "person captain 0 30;");
        Checks.rowOf(x, 0, 0, 0, 3, 0, -1, 2);
        c.due("row 8", x.sails(0, 8, 0, 1), Checks.BAD);
        c.due("row -1", x.sails(0, -1, 0, 1), Checks.BAD);
        c.due("n 0", x.sails(0, 1, 0, 0), Checks.BAD);
        c.due("n 25", x.sails(0, 1, 0, 25), Checks.BAD);
        c.due("nobody, ahead of NULL", x.sails(1, 1, 0, 1), Checks.BAD);
        c.due("missing, ahead of PLACE", x.sails(0, 1, -1, 1), Checks.NULL);
        c.due("status", x.status(), 1);
        c.due("PLACE, ahead of an item", x.sails(0, 0, 2, 5), Checks.PLACE);
        c.due("status", x.status(), 2);
        c.due("PLACE", x.sails(0, 0, -1, 1), Checks.PLACE);
        c.due("PLACE", x.sails(0, 0, 6, 1), Checks.PLACE);
        c.due("PLACE", x.sails(0, 0, Integer.MAX_VALUE, 1), Checks.PLACE);
        c.due("no way 3", x.sails(0, 0, 0, 3), Checks.BAD);
        c.due("status stays", x.status(), 2);
        c.due("no way -1", x.sails(0, 0, 3, 2), Checks.BAD);
        c.due("none sailed", x.person(0, 1), 0);
        c.due("behind where he can't", x.sails(0, 0, 0, 2), 2);
        c.due("status", x.status(), 0);
    }

    private static void stay() {
        YoungerBack x = Checks.with(ALL + "person monk 0 99;person boy 1 0;");
        c.due("stay", x.stay(0, 1), 100);
        c.person(x, 0, 0, 1, 100, 0);
        c.due("stay 99", x.stay(0, 99), 199);
        c.due("to 200", x.stay(0, 99), 298);
        c.due("beyond", x.stay(0, 2), Checks.FULL);
        c.due("just 200", x.stay(0, 1), 299);
        c.due("beyond", x.stay(0, 1), Checks.FULL);
        c.due("n 0", x.stay(0, 0), Checks.BAD);
        c.due("n 100", x.stay(1, 100), Checks.BAD);
        c.due("n far", x.stay(1, Integer.MAX_VALUE), Checks.BAD);
        c.due("nobody", x.stay(2, 1), Checks.BAD);
        c.person(x, 1, 1, 0, 0, 0);
        c.due("acts", x.count(4), 4);
    }

    private static void meet() {
        YoungerBack x = Checks.with(ALL + "person captain 0 30;person pilot 0 40;person monk 1 5;");
        c.due("alike", x.meet(1, 1), Checks.BAD);
        c.due("nobody", x.meet(0, 3), Checks.BAD);
        c.due("nobody", x.meet(-1, 0), Checks.BAD);
        c.due("two harbours", x.meet(0, 2), Checks.STATE);
        c.due("acts", x.count(4), 0);
        c.due("at one clock", x.meet(0, 1), -10);
        c.due("an act, too", x.count(4), 1);
        x.sail(0, 0);
        c.due("he that is less stays", x.meet(0, 2), 34 - 15);
        c.person(x, 2, 1, 10, 15, 0);
        c.person(x, 0, 1, 10, 34, 6);
        x.stay(2, 3);
        c.due("the other way round", x.meet(2, 0), 18 - 37);
        c.person(x, 0, 1, 13, 37, 6);
        c.due("undo", x.undo(), 4);
        c.person(x, 0, 1, 10, 34, 6);
        c.person(x, 2, 1, 13, 18, 0);
    }

    private static void meetOfTheLess() {
        YoungerBack x = Checks.with(ALL + "person captain 0 30;person monk 0 30;");
        x.stay(1, 6);
        x.borrow(0, 100);
        c.due("a is less", x.meet(0, 1), 0);
        c.person(x, 0, 0, 6, 36, 0, 176, 176);
        c.person(x, 1, 0, 6, 36, 0, 0, 0);
        c.due("undo", x.undo(), 2);
        c.person(x, 0, 0, 0, 30, 0, 100, 100);
    }

    private static void borrow() {
        YoungerBack x = Checks.with(ALL + "person captain 0 30;");
        c.due("sum 0", x.borrow(0, 0), Checks.BAD);
        c.due("sum 10000", x.borrow(0, 10000), Checks.BAD);
        c.due("nobody", x.borrow(1, 5), Checks.BAD);
        c.due("owed nothing", x.borrow(0, 1000), 0);
        c.due("owed at once", x.borrow(0, 9999), 1000);
        x.sail(0, 0);
        c.due("owed 10 years later", x.borrow(0, 1), 25923);
        c.person(x, 0, 1, 10, 34, 6, 1, 1);
        c.due("undo", x.undo(), 3);
        c.person(x, 0, 1, 10, 34, 6, 25923, 14636);
        x.undo();
        c.due("undo", x.undo(), 1);
        c.due("the sum before", x.person(0, 4), 1000);
    }

    private static void owed() {
        YoungerBack x = Checks.with("law 2 7;way 0 1 3 1;person captain 0 30;person clerk 0 30;");
        c.due("nothing", x.person(0, 4), 0);
        x.stay(0, 2);
        x.borrow(0, 99);
        x.sail(0, 0);
        // 99, 105, 112, 119: each year's seven of a hundred is cut
        c.person(x, 0, 1, 5, 33, 2, 119, 105);
        c.due("gone", x.gone(0), 14);
        x.borrow(1, 14);
        x.stay(1, 50);
        c.person(x, 1, 0, 50, 80, 0, 14, 14);
        YoungerBack y = Checks.with("law 1 20;person clerk 0 30;");
        y.borrow(0, 9999);
        y.stay(0, 50);
        c.due("50 years of 20", y.person(0, 4), twentyOfHundred(9999, 50));
        y.stay(0, 1);
        c.due("51 years of 20", y.person(0, 4), 99999999);
        y.stay(0, 99);
        c.person(y, 0, 0, 150, 180, 0, 99999999, 99999999);
        YoungerBack z = Checks.with("law 1 0;person clerk 0 30;");
        z.borrow(0, 9999);
        z.stay(0, 99);
        c.person(z, 0, 0, 99, 129, 0, 9999, 9999);
    }

    private static long twentyOfHundred(long sum, int years) {
        return years == 0 ? sum : twentyOfHundred(sum + sum / 5, years - 1);
    }

    private static void undo() {
        YoungerBack x = Checks.with(ALL + "person captain 0 30;person boy 0 3;");
        c.due("none", x.undo(), Checks.STATE);
        x.sail(0, 0);
        x.borrow(1, 50);
        x.stay(1, 4);
        x.sail(1, 2);
        x.stay(1, 0);
        c.due("refused ones are none", x.count(4), 3);
        c.due("latest first", x.undo(), 2);
        c.person(x, 1, 0, 0, 3, 0, 50, 50);
        c.due("undo", x.undo(), 1);
        c.person(x, 1, 0, 0, 3, 0, 0, 0);
        c.person(x, 0, 1, 10, 34, 6, 0, 0);
        c.due("undo", x.undo(), 0);
        c.person(x, 0, 0, 0, 30, 0, 0, 0);
        c.due("none", x.undo(), Checks.STATE);
    }

    private static void undoForgets() {
        YoungerBack x = Checks.with(ALL + "person captain 0 30;");
        for (int k = 1; k <= 60; k++) {
            x.stay(0, 1 + k % 3);
            c.due("24 at most", x.count(4), Math.min(k, 24));
        }
        c.due("clock", x.person(0, 1), 120);
        for (int k = 23; k >= 0; k--) {
            c.due("undo", x.undo(), k);
        }
        c.due("the oldest are forgotten", x.person(0, 1), 72);
        c.due("none", x.undo(), Checks.STATE);
        x.stay(0, 5);
        c.due("and again", x.undo(), 0);
        c.due("clock", x.person(0, 1), 72);
    }

    private static void person() {
        YoungerBack x = Checks.with(ALL + "person pilot 2 44;");
        c.person(x, 0, 2, 0, 44, 0, 0, 0);
        c.due("what 6", x.person(0, 6), Checks.BAD);
        c.due("what -1", x.person(0, -1), Checks.BAD);
        c.due("nobody", x.person(1, 0), Checks.BAD);
        c.due("nobody", x.person(-1, 0), Checks.BAD);
        x.sail(0, 1);
        c.person(x, 0, 1, 11, 44, 11, 0, 0);
    }
}
