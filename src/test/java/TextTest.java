/** Promises 6 to 8: feed, league, fault. */
public final class TextTest {
    private static final Checks c = new Checks("TextTest");

    public static void main(String[] args) {
        feed();
        blanks();
        whatIsRead();
        faultsOfTokens();
        faultsOfNumbers();
        faultsOfRoom();
        whatStays();
        c.end();
    }

    private static void feed() {
        YoungerBack x = new YoungerBack();
        c.due("n 0", x.feed(1, 0), Checks.BAD);
        c.due("n 9", x.feed(1, 9), Checks.BAD);
        c.due("n -1", x.feed(1, -1), Checks.BAD);
        c.due("highest first", x.feed(0x6c6177L, 3), 3);
        c.due("lowest bytes alone", x.feed(0x7171717171712031L, 2), 5);
        c.due("sign", x.feed(0x717171717171203bL, 1), 6);
        c.due("the tape reads law 1;", x.league(), -1000105);
        for (int k = 1; k <= 49; k++) {
            c.due("eight more", x.feed(0x2020202020202020L, 8), 8 * k);
        }
        c.due("none of nine", x.feed(0, 9), Checks.BAD);
        c.due("up to 395", x.feed(0x202020L, 3), 395);
        c.due("six too many", x.feed(0x202020202020L, 6), Checks.FULL);
        c.due("none came", x.count(6), 395);
        c.due("up to the brim", x.feed(0x2020202020L, 5), 400);
        c.due("one too many", x.feed(0x20L, 1), Checks.FULL);
        c.due("none came", x.count(6), 400);
        c.due("the end is at 400", x.league(), -1000500);
        c.due("empty then", x.count(6), 0);
        c.due("room again", x.feed(32, 1), 1);
        c.due("eight bytes with a sign", x.feed(-1L, 8), 9);
        c.due("byte 255 is no token", x.league(), -1000101);
    }

    private static void blanks() {
        YoungerBack x = new YoungerBack();
        c.due("blanks", Checks.read(x, "\n  law \n\n 2   5\n;way0 1 3 2;person pilot0 7 ; \n"), 1);
        c.due("none needed", Checks.read(x, "law2 5;way0 1 3 2;person\npilot1 7;"), 1);
        c.due("numbers with leading 0", Checks.read(x, "law 02 005;way 000 01 010 2;"), 0);
        c.due("rate", x.count(5), 5);
        c.due("tab", Checks.read(x, "law\t2 5;"), -1000103);
        c.due("carriage return", Checks.read(x, "law 2 5;\r"), -1000108);
        c.due("byte 0", Checks.read(x, "\u0000law 2 5;"), -1000100);
        c.due("fault", x.fault(), 1);
    }

    private static void whatIsRead() {
        YoungerBack x = Checks.with("law 5 20;way 0 4 20 20;way 0 4 1 0;person captain 4 99;person monk 0 0;");
        c.due("people", x.count(1), 2);
        c.due("ways", x.count(2), 2);
        c.due("harbours", x.count(3), 5);
        c.due("rate", x.count(5), 20);
        c.due("tape", x.count(6), 0);
        c.due("no fault", x.fault(), 0);
        c.person(x, 0, 4, 0, 99, 0, 0, 0);
        c.person(x, 1, 0, 0, 0, 0, 0, 0);
        c.due("both directions", x.sail(0, 0), 0);
        c.due("both directions", x.sail(1, 0), 4);
        String eight = "way 0 1 1 1;".repeat(8);
        c.due("eight ways, four people", Checks.read(x, "law 2 0;" + eight + "person boy 1 5;".repeat(4)), 4);
        c.due("ways", x.count(2), 8);
        c.due("nothing but the law", Checks.read(x, "law 1 0;"), 0);
        c.due("ways", x.count(2), 0);
        c.due("people", x.count(1), 0);
        c.due("harbours", x.count(3), 1);
    }

    private static void faulty(String text, int place, int fault) {
        YoungerBack x = new YoungerBack();
        c.due(text, Checks.read(x, text), -1000100 - place);
        c.due("fault of " + text, x.fault(), fault);
        c.due("the tape is empty", x.count(6), 0);
        c.due("no league", x.eldest(0), Checks.STATE);
    }

    private static void faultsOfTokens() {
        faulty("", 0, 1);
        faulty("  \n", 3, 1);
        faulty("Law 1 0;", 0, 1);
        faulty("lawx 1 0;", 0, 1);
        faulty("la 1 0;", 0, 1);
        faulty("daw 1 0;", 0, 1);
        faulty("1 0;", 0, 1);
        faulty("law 1 0,", 7, 1);
        faulty("law 1 0:", 7, 1);
        faulty("law law", 4, 1);
        faulty("law ; 0;", 4, 1);
        faulty("law 1 0 0;", 8, 1);
        faulty("law 1 0", 7, 1);
        faulty("law 1 0  ", 9, 1);
        faulty("law 1 0;;", 8, 1);
        faulty("law 1 0; law 1 0;", 9, 1);
        faulty("law 1 0;\n4", 9, 1);
        faulty("law 1 -1;", 6, 1);
        faulty("law 1234 0;", 4, 1);
        faulty("law 0001 0;", 4, 1);
        faulty("law 1 0;12345", 8, 1);
        faulty("law 99999999999999999999 0;", 4, 1);
        faulty("law 2 0;way 0 1 1 1;wayy 0 1 1 1;", 20, 1);
        faulty("law 2 0;way 0 1 1 1;person boy 0 0;way 0 1 1 1;", 35, 1);
        faulty("law 2 0;person captains 0 0;", 15, 1);
        faulty("law 2 0;person 0 0;", 15, 1);
        faulty("law 2 0;person person 0 0;", 15, 1);
        faulty("law 2 0;person monk;", 19, 1);
        faulty("law 2 0;person monk 1", 21, 1);
        faulty("law 2 0;way 0", 13, 1);
        faulty("law 2 0;way 0 1 1 1 person monk 0 0;", 20, 1);
    }

    private static void faultsOfNumbers() {
        faulty("law 0 0;", 4, 2);
        faulty("law 6 99;", 4, 2);
        faulty("law 5 21;", 6, 2);
        faulty("law 5 999", 6, 2);
        faulty("law 2 0;way 2 0 1 1;", 12, 2);
        faulty("law 2 0;way 0 2 1 1;", 14, 2);
        faulty("law 2 0;way 1 1 1 1;", 14, 2);
        faulty("law 1 0;way 0 0 1 1;", 14, 2);
        faulty("law 2 0;way 0 1 0 0;", 16, 2);
        faulty("law 2 0;way 0 1 21 0;", 16, 2);
        faulty("law 2 0;way 0 1 20 21;", 19, 2);
        faulty("law 2 0;way 0 1 3 4;", 18, 2);
        faulty("law 2 0;person boy 2 0;", 19, 2);
        faulty("law 2 0;person boy 1 100;", 21, 2);
        faulty("law 2 21 x", 6, 2);
    }

    private static void faultsOfRoom() {
        String ways = "law 2 0;" + "way 0 1 1 1;".repeat(8);
        faulty(ways + "way 0 1 1 1;", 104, 3);
        faulty(ways + "  way", 106, 3);
        faulty(ways + "ways", 104, 1);
        String people = "law 2 0;" + "person boy 0 0;".repeat(4);
        faulty(people + "person boy 0 0;", 68, 3);
        faulty(people + "\nperson 7", 69, 3);
        faulty(people + "way 0 1 1 1;", 68, 1);
        faulty("law 2 0;" + "way 0 1 1 1;".repeat(7) + "way 1 1 1 1;way", 98, 2);
    }

    private static void whatStays() {
        YoungerBack x = Checks.with("law 2 10;way 0 1 5 2;person captain 0 20;person clerk 0 30;");
        x.row(2, 0, 9);
        x.sail(0, 0);
        x.borrow(0, 100);
        x.ask(0, 0);
        x.image(1);
        c.due("a fault", Checks.read(x, "law 3 20;way 0 1 9 9;person boy 2 5;person boy 3 5;"), -1000147);
        c.due("fault", x.fault(), 2);
        c.person(x, 0, 1, 5, 22, 3, 100, 100);
        c.due("people", x.count(1), 2);
        c.due("harbours", x.count(3), 2);
        c.due("rate", x.count(5), 10);
        c.due("acts", x.count(4), 2);
        c.due("kind", x.kind(1), 4);
        c.due("the way stays", x.undo(), 1);
        c.due("a new one", Checks.read(x, "law 3 5;way 0 2 4 4;person monk 2 50;"), 1);
        c.due("fault is the latest one", x.fault(), 2);
        c.person(x, 0, 2, 0, 50, 0, 0, 0);
        c.due("no act can be undone", x.undo(), Checks.STATE);
        c.due("acts", x.count(4), 0);
        c.due("nobody", x.person(1, 0), Checks.BAD);
        c.due("no way", x.sail(0, 1), Checks.BAD);
        c.due("rows stay", x.drop(2), 9);
        c.due("the trace stays", x.trace(0), 11);
        c.due("images stay", x.restore(1), 1);
        c.person(x, 0, 1, 5, 22, 3, 100, 100);
        c.due("a fault again", Checks.read(x, "x"), -1000100);
        c.due("fault", x.fault(), 1);
    }
}
