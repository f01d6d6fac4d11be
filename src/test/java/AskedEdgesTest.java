/** The edges of KINDS, ASKS, THE TRACE, IMAGES, and what count() tells. */
public final class AskedEdgesTest {
    private static final Checks c = new Checks("AskedEdgesTest");
    private static final String[] SORTS = {"", "captain", "pilot", "monk", "clerk", "boy"};

    public static void main(String[] args) {
        kindsOfAll();
        sizesOfAll();
        marksOfAll();
        askedAsTheyAreNow();
        nearestKinds();
        traceOfTheLatest();
        imagesOfNothing();
        imagesInPlace();
        imagesKeepAll();
        imagesLeaveTheRest();
        imagesOfEarlierLeagues();
        countsOfNothing();
        countsOfMost();
        calls512();
        c.end();
    }

    private static void kindsOfAll() {
        c.says("KINDS of PEOPLE: 0 PERSON; 1 CAPTAIN, a PERSON; 2 PILOT, a CAPTAIN; 3 MONK, a CAPTAIN; 4 CLERK, a PERSON; 5 BOY, a CLERK.");
        int[] kinds = {0, 0b000011, 0b000111, 0b001011, 0b010001, 0b110001};
        for (int sort = 1; sort <= 5; sort++) {
            YoungerBack x = Checks.with("law 1 0;" + ("person " + SORTS[sort] + " 0 5;").repeat(4));
            for (int p = 0; p < 4; p++) {
                c.due("kind() of a " + SORTS[sort], x.kind(p), sort);
                for (int kind = 0; kind <= 5; kind++) {
                    boolean is = (kinds[sort] >> kind & 1) == 1;
                    c.due(SORTS[sort] + " " + p + " as " + kind, x.as(p, kind), is ? p : Checks.KIND);
                }
                c.due("kind 6", x.as(p, 6), Checks.BAD);
                c.due("kind -1", x.as(p, -1), Checks.BAD);
                c.due("kind() stays", x.kind(p), sort);
            }
        }
    }

    private static int[][] bodiesOfSize() {
        return new int[][] {{}, {11, 10, 21, 20}, {12, 11, 10, 24, 21, 20}, {11, 10, 22, 21, 20}, {13, 10}, {14, 13, 10}};
    }

    private static int[][] bodiesOfMark() {
        return new int[][] {{}, {21, 20}, {24, 21, 20}, {22, 21, 20}, {23, 20, 13, 10}, {23, 20, 14, 13, 10}};
    }

    private static int size(int sort, int age, int p, int at) {
        switch (sort) {
            case 1: return age + p + at;
            case 2: return -(age + 2 * (p + at));
            case 3: return age + p + at - 1000;
            case 4: return age - 100;
            default: return 2 * (age - 100);
        }
    }

    private static int mark(int sort, int age, int p, int at) {
        switch (sort) {
            case 1: return p + at;
            case 2: return 2 * (p + at);
            case 3: return p + at - 1000;
            case 4: return p - (age - 100);
            default: return p - 2 * (age - 100);
        }
    }

    private static YoungerBack four(int sort, int at, int age) {
        return Checks.with("law 5 0;" + ("person " + SORTS[sort] + " " + at + " " + age + ";").repeat(4));
    }

    private static void sizesOfAll() {
        c.says("0 SIZE: 10 lent to all PEOPLE: AGE. 11 of CAPTAINS: what 10 gives, and MARK. 12 of PILOTS: 0 less what 11 gives. 13 of CLERKS: what 10 gives, less 100. 14 of BOYS: twice what 13 gives (asked once).");
        int[] ages = {0, 1, 50, 99};
        for (int sort = 1; sort <= 5; sort++) {
            for (int at = 0; at < 5; at++) {
                for (int age : ages) {
                    YoungerBack x = four(sort, at, age);
                    for (int p = 0; p < 4; p++) {
                        c.due("SIZE of " + SORTS[sort] + " " + p, x.ask(p, 0), size(sort, age, p, at));
                        c.trace(x, bodiesOfSize()[sort]);
                    }
                }
            }
        }
    }

    private static void marksOfAll() {
        c.says("1 MARK: 20 lent to all PEOPLE: his number. 21 of CAPTAINS: what 20 gives, and his HARBOUR. 22 of MONKS: what 21 gives, less 1000. 23 of CLERKS: what 20 gives, less SIZE. 24 of PILOTS: twice what 21 gives (asked once).");
        int[] ages = {0, 1, 50, 99};
        for (int sort = 1; sort <= 5; sort++) {
            for (int at = 0; at < 5; at++) {
                for (int age : ages) {
                    YoungerBack x = four(sort, at, age);
                    for (int p = 0; p < 4; p++) {
                        c.due("MARK of " + SORTS[sort] + " " + p, x.ask(p, 1), mark(sort, age, p, at));
                        c.trace(x, bodiesOfMark()[sort]);
                    }
                }
            }
        }
    }

    private static void askedAsTheyAreNow() {
        for (int sort = 1; sort <= 5; sort++) {
            YoungerBack x = Checks.with("law 5 0;way 0 4 10 5;person boy 1 1;person " + SORTS[sort] + " 0 99;");
            x.sail(1, 0);
            x.stay(1, 99);
            x.stay(1, 91);
            int age = x.person(1, 2);
            c.due("SIZE at 200", x.ask(1, 0), size(sort, age, 1, 4));
            c.due("MARK at 200", x.ask(1, 1), mark(sort, age, 1, 4));
            x.undo();
            x.undo();
            x.undo();
            c.due("SIZE at 0", x.ask(1, 0), size(sort, 99, 1, 0));
            c.due("MARK at 0", x.ask(1, 1), mark(sort, 99, 1, 0));
        }
    }

    private static void nearestKinds() {
        c.says("(Of an ask the BODY told for the KIND begins, else that of the nearest KIND that it is, too, else the one that is lent; SIZE, MARK within others are asked of the same one anew.)");
        YoungerBack x = Checks.with("law 1 0;person monk 0 40;person boy 0 10;person pilot 0 28;");
        c.due("a monk's SIZE is a captain's, with a monk's MARK", x.ask(0, 0), 40 + 0 - 1000);
        c.trace(x, 11, 10, 22, 21, 20);
        c.due("a boy's MARK is a clerk's, with a boy's SIZE", x.ask(1, 1), 1 + 2 * 90);
        c.trace(x, 23, 20, 14, 13, 10);
        c.due("a pilot's SIZE asks for a pilot's MARK", x.ask(2, 0), -(28 + 2 * 2));
        c.trace(x, 12, 11, 10, 24, 21, 20);
    }

    private static void traceOfTheLatest() {
        c.says("THE TRACE is empty ahead of it (where that is refused it stays).");
        YoungerBack x = Checks.with("law 1 0;person pilot 0 5;person clerk 0 5;");
        for (int i = -1; i <= 17; i++) {
            c.due("empty at first", x.trace(i), Checks.NONE);
        }
        x.ask(0, 0);
        c.trace(x, 12, 11, 10, 24, 21, 20);
        x.ask(1, 0);
        c.trace(x, 13, 10);
        for (int i = 2; i <= 17; i++) {
            c.due("shorter than the one before", x.trace(i), Checks.NONE);
        }
        for (int k = 0; k < 9; k++) {
            x.ask(0, 0);
        }
        c.trace(x, 12, 11, 10, 24, 21, 20);
        x.ask(2, 0);
        x.ask(0, 2);
        x.ask(-1, -1);
        c.trace(x, 12, 11, 10, 24, 21, 20);
        Checks.read(x, "law 1 0;");
        x.ask(0, 0);
        c.trace(x, 12, 11, 10, 24, 21, 20);
    }

    private static void imagesOfNothing() {
        c.says("An IMAGE (0, 1) is kept of the LEAGUE: 1. BAD; STATE: no LEAGUE.");
        YoungerBack x = new YoungerBack();
        c.due("no LEAGUE", x.image(0), Checks.STATE);
        Checks.read(x, "law 9 9;");
        c.due("none by a FAULT", x.image(1), Checks.STATE);
        c.due("none was kept", x.restore(0), Checks.STATE);
        Checks.read(x, "law 3 7;");
        c.due("of nobody", x.image(1), 1);
        c.due("none was kept as 0", x.restore(0), Checks.STATE);
        Checks.read(x, "law 1 0;person boy 0 4;");
        c.due("none was kept as 0", x.restore(0), Checks.STATE);
        c.due("the LEAGUE stays", x.count(1), 1);
        c.due("of nobody", x.restore(1), 1);
        c.due("people", x.count(1), 0);
        c.due("harbours", x.count(3), 3);
        c.due("rate", x.count(5), 7);
        c.due("nobody", x.eldest(0), Checks.NONE);
    }

    private static void imagesInPlace() {
        c.says("The LEAGUE is as an IMAGE kept it (no ACT can be undone then): 1. BAD; STATE: none was kept.");
        YoungerBack x = Checks.with("law 1 0;person boy 0 4;");
        x.image(0);
        x.stay(0, 1);
        x.image(1);
        x.stay(0, 1);
        c.due("0", x.restore(0), 1);
        c.due("as it was kept", x.person(0, 2), 4);
        c.due("1", x.restore(1), 1);
        c.due("as it was kept", x.person(0, 2), 5);
        x.stay(0, 9);
        c.due("1 once more", x.restore(1), 1);
        c.due("acts leave it", x.person(0, 2), 5);
        x.stay(0, 9);
        c.due("kept anew", x.image(1), 1);
        c.due("0 stays", x.restore(0), 1);
        c.due("0 stays", x.person(0, 2), 4);
        c.due("1 is the new one", x.restore(1), 1);
        c.due("1 is the new one", x.person(0, 2), 14);
    }

    private static void imagesKeepAll() {
        YoungerBack x = Checks.with("law 4 20;way 0 3 20 1;way 3 1 2 2;person captain 0 30;person monk 3 99;");
        x.borrow(0, 9999);
        x.sail(0, 0);
        x.sail(0, 0);
        x.sail(0, 0);
        x.borrow(1, 5);
        x.stay(1, 7);
        x.image(0);
        c.due("ACTS stay behind image()", x.count(4), 6);
        Checks.read(x, "law 2 0;way 0 1 7 7;person boy 1 1;person boy 1 1;person boy 1 1;");
        x.borrow(0, 77);
        x.stay(1, 8);
        c.due("restore()", x.restore(0), 1);
        c.person(x, 0, 3, 60, 33, 57, 99999999, 17276);
        c.person(x, 1, 3, 7, 106, 0, 14, 14);
        int[] want = {0, 2, 2, 4, 0, 20, 0};
        for (int what = 0; what <= 6; what++) {
            c.due("count(" + what + ")", x.count(what), want[what]);
        }
        c.due("kind()", x.kind(1), 3);
        c.due("nobody more", x.kind(2), Checks.BAD);
        c.due("no ACT", x.undo(), Checks.STATE);
        c.due("elder at CLOCK 0", x.eldest(1), 1);
        c.due("his ways", x.sail(0, 1), 1);
        c.person(x, 0, 1, 62, 35, 57, 99999999, 24877);
        c.due("an ACT again", x.undo(), 0);
        c.person(x, 0, 3, 60, 33, 57, 99999999, 17276);
    }

    private static void imagesLeaveTheRest() {
        YoungerBack x = Checks.with("law 1 0;person boy 0 4;");
        x.image(0);
        x.row(6, 1, 9);
        x.ask(0, 0);
        Checks.read(x, "9");
        Checks.feed(x, "law 1");
        x.as(0, 1);
        x.restore(0);
        c.due("ROWS", x.count(0), 1);
        c.due("status()", x.status(), 3);
        c.due("fault()", x.fault(), 1);
        c.trace(x, 14, 13, 10);
        c.due("the tape", x.count(6), 5);
        c.due("the tape", Checks.read(x, " 3;"), 0);
        c.due("rate", x.count(5), 3);
    }

    private static void imagesOfEarlierLeagues() {
        YoungerBack x = Checks.with("law 5 0;way 0 4 1 1;person boy 0 4;");
        x.image(0);
        Checks.read(x, "law 1 1;person monk 0 9;person monk 0 9;");
        x.image(1);
        for (int k = 0; k < 3; k++) {
            x.restore(0);
            c.due("sails", x.sail(0, 0), 4);
            c.due("one", x.count(1), 1);
            c.due("harbours", x.count(3), 5);
            x.restore(1);
            c.due("no way", x.sail(0, 0), Checks.BAD);
            c.due("two", x.count(1), 2);
            c.due("harbours", x.count(3), 1);
        }
    }

    private static void countsOfNothing() {
        c.says("How many: 0 ROWS (that are not missing), 1 PEOPLE, 2 WAYS, 3 HARBOURS, 4 ACTS that can be undone, 5 RATE, 6 bytes on the tape (3, 5: 0 without a LEAGUE). BAD.");
        YoungerBack x = new YoungerBack();
        Checks.feed(x, "law 5 20;way 0 1 1 1;person boy 0 0;");
        int[] unread = {0, 0, 0, 0, 0, 0, 36};
        for (int what = 0; what <= 6; what++) {
            c.due("not read yet: " + what, x.count(what), unread[what]);
        }
        Checks.read(x, "x");
        for (int what = 0; what <= 6; what++) {
            c.due("a FAULT: " + what, x.count(what), 0);
        }
    }

    private static void countsOfMost() {
        YoungerBack x = Checks.with("law 5 20;" + "way 0 4 1 1;".repeat(8) + "person boy 0 0;".repeat(4));
        for (int row = 0; row < 8; row++) {
            x.row(row, 0, 40);
        }
        x.sails(0, 0, 0, 24);
        x.sails(1, 0, 0, 24);
        Checks.feed(x, " ".repeat(400));
        int[] most = {8, 4, 8, 5, 24, 20, 400};
        for (int what = 0; what <= 6; what++) {
            c.due("most: " + what, x.count(what), most[what]);
        }
        c.due("7", x.count(7), Checks.BAD);
        c.due("-1", x.count(-1), Checks.BAD);
    }

    private static void calls512() {
        c.says("An object is used for at most 512 calls after it has been made;");
        YoungerBack x = new YoungerBack();
        int calls = 0;
        for (byte b : "law 2 0;way 0 1 9 1;person monk 0 7;".getBytes(java.nio.charset.StandardCharsets.ISO_8859_1)) {
            x.feed(b, 1);
            calls++;
        }
        c.due("league()", x.league(), 1);
        calls++;
        while (calls < 510) {
            c.due("call " + calls, x.meet(0, 0), Checks.BAD);
            c.due("call " + calls, x.gains(0, 1, 40, 2), 27);
            calls += 2;
            if (calls < 510) {
                c.due("call " + calls, x.stay(0, 1) > 7 ? 1 : 0, 1);
                calls++;
            }
        }
        c.due("call 511", x.count(4), 24);
        c.due("call 512", x.undo(), 23);
    }
}
