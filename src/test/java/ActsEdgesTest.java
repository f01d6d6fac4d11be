/** The edges of CLOCK, AGE, LAG, ACTS and OWED. */
public final class ActsEdgesTest {
    private static final Checks c = new Checks("ActsEdgesTest");
    private static final String[] SORTS = {"", "captain", "pilot", "monk", "clerk", "boy"};
    private static final int LAST = 200, MOST_ACTS = 24, MOST_OWED = 99999999;

    public static void main(String[] args) {
        agesOfAllWays();
        clockOfSailing();
        lagOfWays();
        endsOfWays();
        sailsAsLongAsHeCan();
        clockOfStaying();
        meetings();
        meetingsOfOneClock();
        aMeetingIsOneAct();
        actsOfEachSort();
        actsAreForgotten();
        sailsForgets();
        undoneAndDoneAnew();
        whatIsUndone();
        nothingBorrowed();
        owedYearByYear();
        owedIsCut();
        mostOwed();
        inPlaceOfWhatHeOwed();
        owedByWhichClock();
        owedOfMeeting();
        c.end();
    }

    private static int ownYears(int sort, int shore, int own) {
        switch (sort) {
            case 2: return own == 0 ? 0 : own - 1;
            case 3: return 0;
            case 4: return shore;
            default: return own;
        }
    }

    private static void agesOfAllWays() {
        c.says("He SAILS a way that has an end in his HARBOUR, to its other end: CLOCK is SHORE more, AGE is more by OWN; for a pilot by 1 less (0 at least), for a monk by 0, for a clerk by SHORE; a boy sails as a captain, but no way with a SHORE above 10.");
        for (int sort = 1; sort <= 5; sort++) {
            for (int shore = 1; shore <= 20; shore++) {
                for (int own = 0; own <= shore; own++) {
                    agesOfWay(sort, shore, own);
                }
            }
        }
    }

    private static void agesOfWay(int sort, int shore, int own) {
        String text = "law 3 0;way 2 1 " + shore + " " + own + ";person " + SORTS[sort] + " 2 30;";
        YoungerBack x = Checks.with(text);
        if (sort == 5 && shore > 10) {
            c.due(text, x.sail(0, 0), Checks.STATE);
            c.person(x, 0, 2, 0, 30, 0);
            return;
        }
        int aged = ownYears(sort, shore, own);
        c.due(text, x.sail(0, 0), 1);
        c.person(x, 0, 1, shore, 30 + aged, shore - aged);
        c.due(text + " back", x.sail(0, 0), 2);
        c.person(x, 0, 2, 2 * shore, 30 + 2 * aged, 2 * (shore - aged));
    }

    private static YoungerBack atClock(String text, int... clocks) {
        YoungerBack x = Checks.with(text);
        for (int p = 0; p < clocks.length; p++) {
            for (int years = clocks[p]; years > 0; years -= 99) {
                x.stay(p, Math.min(years, 99));
            }
            c.due("CLOCK of " + p, x.person(p, 1), clocks[p]);
        }
        return x;
    }

    private static void clockOfSailing() {
        c.says("CLOCK is 200 at most.");
        for (int shore = 1; shore <= 20; shore++) {
            String text = "law 2 0;way 0 1 " + shore + " 0;person captain 0 0;";
            YoungerBack just = atClock(text, LAST - shore);
            c.due("just 200 by " + shore, just.sail(0, 0), 1);
            c.person(just, 0, 1, LAST, LAST - shore, shore);
            c.due("beyond 200", just.sail(0, 0), Checks.FULL);
            YoungerBack beyond = atClock(text, LAST + 1 - shore);
            c.due("201 by " + shore, beyond.sail(0, 0), Checks.FULL);
            c.person(beyond, 0, 0, LAST + 1 - shore, LAST + 1 - shore, 0);
        }
    }

    private static void lagOfWays() {
        c.says("LAG: CLOCK, and AGE as told, less AGE.");
        YoungerBack x = Checks.with("law 2 0;way 0 1 20 0;person monk 0 99;person clerk 0 99;");
        for (int k = 0; k <= 10; k++) {
            c.due("LAG of " + k + " voyages", x.person(0, 3), 20 * k);
            c.due("AGE of " + k + " voyages", x.person(0, 2), 99);
            c.due("LAG of a clerk", x.person(1, 3), 0);
            c.due("AGE of a clerk", x.person(1, 2), 99 + 20 * k);
            x.sail(0, 0);
            x.sail(1, 0);
        }
        YoungerBack y = Checks.with("law 2 0;way 0 1 3 1;person pilot 0 7;");
        y.stay(0, 10);
        c.due("LAG of a stay", y.person(0, 3), 0);
        y.sail(0, 0);
        y.stay(0, 10);
        c.due("LAG of a voyage between stays", y.person(0, 3), 3);
    }

    private static void endsOfWays() {
        c.says("BAD; STATE: it has no end there, he may not; FULL: CLOCK.");
        String text = "law 5 0;way 0 1 1 1;way 1 2 1 1;way 2 3 1 1;way 3 4 1 1;way 4 0 1 1;way 0 2 1 1;way 1 3 1 1;way 2 4 1 1;";
        int[][] ends = {{0, 1}, {1, 2}, {2, 3}, {3, 4}, {4, 0}, {0, 2}, {1, 3}, {2, 4}};
        for (int at = 0; at < 5; at++) {
            for (int way = 0; way < 8; way++) {
                YoungerBack x = Checks.with(text + "person boy " + at + " 5;");
                int to = ends[way][0] == at ? ends[way][1] : ends[way][1] == at ? ends[way][0] : Checks.STATE;
                c.due("WAY " + way + " from " + at, x.sail(0, way), to);
                c.due("HARBOUR", x.person(0, 0), Math.max(to, -1) < 0 ? at : to);
            }
        }
    }

    private static void sailsAsLongAsHeCan() {
        c.says("an ACT each, as long as he can: how many.");
        String text = "law 3 0;way 0 1 5 0;way 1 2 11 0;person captain 0 0;person boy 0 0;person clerk 2 0;";
        for (int clock = 180; clock <= LAST; clock++) {
            YoungerBack x = atClock(text, clock);
            int acts = x.count(4);
            x.row(0, 0, 6);
            int can = (LAST - clock) / 5;
            c.due("sails() at CLOCK " + clock, x.sails(0, 0, 0, 6), Math.min(can, 6));
            c.due("status()", x.status(), 0);
            c.due("CLOCK", x.person(0, 1), clock + 5 * can);
            c.due("an ACT each", x.count(4), acts + can);
        }
        YoungerBack x = Checks.with(text);
        Checks.rowOf(x, 0, 0, 1, 1, 0);
        x.set(7, 0, 0);
        c.due("none there", x.sails(2, 0, 0, 1), 0);
        c.due("0 is no FINDING", x.status(), 0);
        c.due("no ACT", x.count(4), 0);
        c.due("a boy, till 11", x.sails(1, 0, 0, 4), 1);
        c.due("an ACT", x.count(4), 1);
        c.due("a captain, all", x.sails(0, 0, 0, 4), 4);
        c.due("not beyond n", x.person(0, 0), 0);
        c.due("the first of two that he can't, none behind it", x.sails(2, 0, 0, 3), 0);
        c.person(x, 2, 2, 0, 0, 0);
    }

    private static void clockOfStaying() {
        c.says("He STAYS: CLOCK and AGE are as many years more. CLOCK is 200 at most.");
        YoungerBack x = atClock("law 1 0;person boy 0 99;", 101);
        c.due("99 to 200", x.stay(0, 99), 299);
        c.person(x, 0, 0, LAST, 299, 0);
        c.due("1 beyond", x.stay(0, 1), Checks.FULL);
        c.due("99 beyond", x.stay(0, 99), Checks.FULL);
        YoungerBack y = atClock("law 1 0;person boy 0 99;", 102);
        c.due("99 to 201", y.stay(0, 99), Checks.FULL);
        c.due("98 to 200", y.stay(0, 98), 299);
        YoungerBack z = atClock("law 1 0;person monk 0 0;", 199);
        c.due("2 to 201", z.stay(0, 2), Checks.FULL);
        c.due("1 to 200", z.stay(0, 1), LAST);
    }

    private static void meetings() {
        c.says("Two MEET in one HARBOUR: whose CLOCK is less STAYS till that of the other one.");
        int[] clocks = {0, 1, 2, 40, 99, 100, 101, 199, 200};
        for (int one : clocks) {
            for (int other : clocks) {
                YoungerBack x = atClock("law 2 0;person captain 1 30;person pilot 1 77;", one, other);
                int later = Math.max(one, other);
                int acts = x.count(4);
                c.due("meet(0, 1) of " + one + ", " + other, x.meet(0, 1), -47);
                c.person(x, 0, 1, later, 30 + later, 0);
                c.person(x, 1, 1, later, 77 + later, 0);
                c.due("an ACT", x.count(4), acts + 1);
                c.due("meet(1, 0) behind it", x.meet(1, 0), 47);
            }
        }
        c.says("AGE of a less that of b then.");
        YoungerBack x = Checks.with("law 2 0;way 0 1 20 0;person monk 0 30;person clerk 0 50;");
        x.sail(0, 0);
        x.sail(0, 0);
        c.due("he came back younger", x.meet(0, 1), 30 - 90);
        x.undo();
        c.due("the other way round", x.meet(1, 0), 90 - 30);
        c.person(x, 0, 0, 40, 30, 40);
        c.person(x, 1, 0, 40, 90, 0);
    }

    private static void meetingsOfOneClock() {
        c.says("also such by which nothing becomes another");
        YoungerBack x = Checks.with("law 1 0;person captain 0 30;person pilot 0 30;");
        c.due("of one CLOCK", x.meet(0, 1), 0);
        c.due("an ACT", x.count(4), 1);
        c.due("once more", x.meet(1, 0), 0);
        c.due("an ACT", x.count(4), 2);
        x.borrow(0, 7);
        c.due("in place of just so much", x.borrow(0, 7), 7);
        c.due("an ACT", x.count(4), 4);
        for (int left = 3; left >= 0; left--) {
            c.due("undo()", x.undo(), left);
        }
        c.due("none", x.undo(), Checks.STATE);
    }

    private static void aMeetingIsOneAct() {
        c.says("ACTS (24 at most are kept, of more the oldest is forgotten; each can be undone, the latest first;");
        YoungerBack x = Checks.with("law 1 10;person captain 0 30;person pilot 0 30;");
        x.borrow(0, 100);
        x.stay(1, 3);
        x.meet(0, 1);
        c.due("not also a STAY", x.count(4), 3);
        c.person(x, 0, 0, 3, 33, 0, 133, 133);
        c.due("undone at once", x.undo(), 2);
        c.person(x, 0, 0, 0, 30, 0, 100, 100);
        c.person(x, 1, 0, 3, 33, 0, 0, 0);
    }

    private static void act(YoungerBack x, int sort) {
        switch (sort) {
            case 0: c.holds("sail()", x.sail(0, 0) >= 0); break;
            case 1: c.holds("stay()", x.stay(0, 1) >= 0); break;
            case 2: c.holds("meet()", x.meet(1, 2) > Checks.NONE); break;
            case 3: c.holds("borrow()", x.borrow(0, 5) >= 0); break;
            default: c.due("sails()", x.sails(0, 0, 0, 1), 1); break;
        }
    }

    private static void actsOfEachSort() {
        for (int sort = 0; sort <= 4; sort++) {
            YoungerBack x = Checks.with("law 2 0;way 0 1 1 1;person clerk 0 0;person boy 1 0;person monk 1 0;");
            x.row(0, 0, 1);
            c.due("nothing there yet", x.undo(), Checks.STATE);
            for (int k = 1; k <= MOST_ACTS + 2; k++) {
                act(x, sort);
                c.due("ACTS of sort " + sort, x.count(4), Math.min(k, MOST_ACTS));
            }
            for (int left = MOST_ACTS - 1; left >= 0; left--) {
                c.due("undo() of sort " + sort, x.undo(), left);
                c.due("ACTS of sort " + sort, x.count(4), left);
            }
            c.due("none any more", x.undo(), Checks.STATE);
            c.due("and none", x.count(4), 0);
        }
    }

    /** As many stays as told: what they leave when all that can be undone is undone. */
    private static void actsAreForgotten() {
        c.says("(24 at most are kept, of more the oldest is forgotten;");
        int[] acts = {1, 2, 23, 24, 25, 26, 47, 48, 49, 50, 72, 73, 100};
        for (int many : acts) {
            YoungerBack x = Checks.with("law 1 0;person boy 0 5;person monk 0 8;");
            for (int k = 0; k < many; k++) {
                x.stay(k % 2, 1);
            }
            for (int k = Math.min(many, MOST_ACTS) - 1; k >= 0; k--) {
                c.due("undo() of " + many, x.undo(), k);
            }
            int forgotten = Math.max(0, many - MOST_ACTS);
            c.due("none any more", x.undo(), Checks.STATE);
            c.person(x, 0, 0, (forgotten + 1) / 2, 5 + (forgotten + 1) / 2, 0);
            c.person(x, 1, 0, forgotten / 2, 8 + forgotten / 2, 0);
        }
    }

    private static void sailsForgets() {
        YoungerBack x = Checks.with("law 2 0;way 0 1 1 0;person boy 0 5;");
        x.row(0, 0, 24);
        x.stay(0, 7);
        c.due("24 ACTS of 25", x.sails(0, 0, 0, 24), 24);
        c.due("ACTS", x.count(4), MOST_ACTS);
        for (int left = MOST_ACTS - 1; left >= 0; left--) {
            c.due("undo()", x.undo(), left);
        }
        c.person(x, 0, 0, 7, 12, 0);
        c.due("the stay is forgotten", x.undo(), Checks.STATE);
    }

    private static void undoneAndDoneAnew() {
        c.says("The latest ACT is undone: how many can be undone yet. STATE: none.");
        YoungerBack x = Checks.with("law 1 0;person boy 0 0;");
        for (int k = 0; k < 30; k++) {
            x.stay(0, 1);
        }
        for (int k = 0; k < 10; k++) {
            x.undo();
        }
        c.due("ACTS", x.count(4), 14);
        for (int k = 0; k < 9; k++) {
            x.stay(0, 2);
        }
        c.due("ACTS", x.count(4), 23);
        x.stay(0, 2);
        c.due("ACTS", x.count(4), 24);
        x.stay(0, 2);
        c.due("ACTS", x.count(4), 24);
        c.due("CLOCK", x.person(0, 1), 42);
        for (int left = MOST_ACTS - 1; left >= 0; left--) {
            c.due("undo()", x.undo(), left);
            c.due("CLOCK", x.person(0, 1), left >= 13 ? 42 - 2 * (24 - left) : 7 + left);
        }
        c.due("none any more", x.undo(), Checks.STATE);
    }

    private static void whatIsUndone() {
        YoungerBack x = Checks.with("law 3 10;way 0 2 5 1;person captain 0 30;person monk 2 40;");
        x.borrow(0, 1000);
        x.sail(0, 0);
        x.borrow(0, 50);
        x.meet(1, 0);
        c.person(x, 0, 2, 5, 31, 4, 50, 50);
        c.person(x, 1, 2, 5, 45, 0, 0, 0);
        c.due("meet() undone", x.undo(), 3);
        c.person(x, 1, 2, 0, 40, 0, 0, 0);
        c.person(x, 0, 2, 5, 31, 4, 50, 50);
        c.due("borrow() undone", x.undo(), 2);
        c.person(x, 0, 2, 5, 31, 4, 1610, 1100);
        c.due("sail() undone", x.undo(), 1);
        c.person(x, 0, 0, 0, 30, 0, 1000, 1000);
        c.due("borrow() undone", x.undo(), 0);
        c.person(x, 0, 0, 0, 30, 0, 0, 0);
        c.person(x, 1, 2, 0, 40, 0, 0, 0);
    }

    private static void nothingBorrowed() {
        c.says("0: nothing was BORROWED.");
        YoungerBack x = Checks.with("law 1 20;person captain 0 30;person clerk 0 30;");
        c.due("at first", x.person(0, 4), 0);
        c.due("at first", x.person(0, 5), 0);
        x.borrow(1, 9999);
        x.stay(0, 99);
        x.stay(0, 99);
        x.stay(0, 2);
        c.due("at 200", x.person(0, 4), 0);
        c.due("at 200", x.person(0, 5), 0);
        c.due("GONE", x.gone(0), 0);
        c.due("borrowed then", x.borrow(0, 1), 0);
        c.due("owed then", x.person(0, 4), 1);
        c.due("owed then", x.person(0, 5), 1);
    }

    private static void owedYearByYear() {
        c.says("the sum, and for each year that his CLOCK is more than then RATE of 100 of what it is (cut) more, year by year, 99999999 at most;");
        int[] sums = {1, 4, 5, 9, 10, 99, 100, 101, 1234, 9998, 9999};
        for (int rate = 0; rate <= 20; rate++) {
            for (int sum : sums) {
                YoungerBack x = Checks.with("law 1 " + rate + ";person boy 0 3;");
                x.borrow(0, sum);
                long owed = sum;
                c.due("at once", x.person(0, 4), owed);
                for (int year = 1; year <= LAST; year++) {
                    x.stay(0, 1);
                    owed = Math.min(MOST_OWED, owed + owed * rate / 100);
                    c.due(sum + " of RATE " + rate + " behind " + year, x.person(0, 4), owed);
                }
                c.due("by his own, too", x.person(0, 5), owed);
            }
        }
    }

    private static void owed(int rate, int sum, int years, int due) {
        YoungerBack x = Checks.with("law 1 " + rate + ";person monk 0 0;");
        x.borrow(0, sum);
        for (int left = years; left > 0; left -= 99) {
            x.stay(0, Math.min(left, 99));
        }
        String what = sum + " of RATE " + rate + " behind " + years;
        c.due(what, x.person(0, 4), due);
        c.due(what + " by his own", x.person(0, 5), due);
        c.due(what + " GONE", x.gone(0), 0);
        c.due(what + " BORROWED anew", x.borrow(0, 1), due);
    }

    private static void owedIsCut() {
        c.says("All that is divided is cut towards 0.");
        owed(1, 99, 1, 99);
        owed(1, 99, 200, 99);
        owed(1, 100, 1, 101);
        owed(1, 199, 1, 200);
        owed(1, 200, 1, 202);
        owed(20, 4, 200, 4);
        owed(20, 5, 1, 6);
        owed(20, 9, 1, 10);
        owed(20, 10, 1, 12);
        owed(19, 5, 200, 5);
        owed(19, 6, 1, 7);
        owed(0, 9999, 200, 9999);
        owed(0, 1, 200, 1);
        // 105, then 5 of 100 of 105 is 5.25: year by year, not 110.25 at once
        owed(5, 100, 2, 110);
        owed(5, 100, 3, 115);
    }

    private static void mostOwed() {
        c.says("99999999 at most;");
        owed(6, 9479, 158, 94338901);
        owed(6, 9479, 159, 99999235);
        owed(6, 9479, 160, MOST_OWED);
        owed(6, 9479, 161, MOST_OWED);
        owed(6, 9479, 200, MOST_OWED);
        owed(10, 4960, 103, 90909623);
        owed(10, 4960, 104, MOST_OWED);
        owed(20, 9999, 50, 90973563);
        owed(20, 9999, 51, MOST_OWED);
        owed(20, 9999, 52, MOST_OWED);
        owed(20, 9999, 200, MOST_OWED);
        owed(20, 9, 88, 62479627);
    }

    private static void inPlaceOfWhatHeOwed() {
        c.says("one BORROWS a sum, in place of what he owed: by his CLOCK and AGE as they are.");
        YoungerBack x = Checks.with("law 2 20;way 0 1 20 1;person captain 0 30;person pilot 0 30;");
        c.due("owed nothing", x.borrow(0, 9999), 0);
        for (int k = 0; k < 3; k++) {
            x.sail(0, 0);
        }
        c.due("by the shore's clock, at most", x.person(0, 4), MOST_OWED);
        c.due("by his own", x.person(0, 5), 17276);
        c.due("GONE", x.gone(0), MOST_OWED - 17276);
        c.due("what he owed by the shore's clock", x.borrow(0, 1), MOST_OWED);
        c.due("in its place", x.person(0, 4), 1);
        c.due("in its place", x.person(0, 5), 1);
        c.due("nobody else", x.person(1, 4), 0);
        c.due("GONE", x.gone(0), 0);
        c.due("the sum of just now", x.borrow(0, 9999), 1);
        x.stay(0, 1);
        c.person(x, 0, 1, 61, 34, 57, 11998, 11998);
    }

    private static void owedByWhichClock() {
        c.says("by his own: for each year that his AGE is more than then;");
        int[] owns = {0, 1464, 1331, 1000, 2591, 1464};
        for (int sort = 1; sort <= 5; sort++) {
            YoungerBack x = Checks.with("law 2 10;way 0 1 10 4;person " + SORTS[sort] + " 0 30;");
            x.stay(0, 5);
            x.borrow(0, 9999);
            x.undo();
            c.due("BORROWED", x.borrow(0, 1000), 0);
            x.borrow(0, 9999);
            x.undo();
            x.sail(0, 0);
            c.due("by the shore's clock of a " + SORTS[sort], x.person(0, 4), 2591);
            c.due("by his own of a " + SORTS[sort], x.person(0, 5), owns[sort]);
            c.due("GONE of a " + SORTS[sort], x.gone(0), 2591 - x.person(0, 5));
        }
    }

    private static void owedOfMeeting() {
        c.says("Two MEET in one HARBOUR: whose CLOCK is less STAYS till that of the other one.");
        YoungerBack x = Checks.with("law 1 20;person captain 0 30;person pilot 0 30;");
        x.borrow(0, 9999);
        x.borrow(1, 5);
        x.stay(1, 99);
        x.stay(1, 99);
        x.stay(1, 2);
        x.meet(0, 1);
        c.person(x, 0, 0, LAST, 230, 0, MOST_OWED, MOST_OWED);
    }
}
