/** Promises 16 to 22: gains, soonest, voyages, even, where, gone, eldest. */
public final class ForetoldTest {
    private static final Checks c = new Checks("ForetoldTest");

    public static void main(String[] args) {
        gains();
        soonest();
        voyages();
        even();
        evenEdges();
        where();
        gone();
        eldest();
        nothingChanges();
        c.end();
    }

    private static void gains(YoungerBack x, int p, int h, int n, int many, int least, int greatest) {
        String call = "gains(" + p + ", " + h + ", " + n + ")";
        c.due(call + " many", x.gains(p, h, n, 0), many);
        c.due(call + " least", x.gains(p, h, n, 1), least);
        c.due(call + " greatest", x.gains(p, h, n, 2), greatest);
    }

    private static void gains() {
        YoungerBack x = Checks.with("law 3 0;way 0 1 10 4;way 1 2 11 0;person captain 0 0;person pilot 0 0;person boy 1 0;person clerk 0 0;");
        gains(x, 0, 0, 0, 1, 0, 0);
        gains(x, 0, 1, 0, 0, Checks.NONE, Checks.NONE);
        gains(x, 0, 1, 9, 0, Checks.NONE, Checks.NONE);
        gains(x, 0, 1, 10, 1, 6, 6);
        gains(x, 0, 0, 19, 1, 0, 0);
        gains(x, 0, 0, 20, 2, 0, 12);
        gains(x, 0, 2, 21, 1, 17, 17);
        // to and fro between 0 and 1: 6, 18; between 1 and 2: 6 and 22
        gains(x, 0, 1, 30, 2, 6, 18);
        gains(x, 0, 1, 40, 3, 6, 28);
        gains(x, 1, 1, 10, 1, 7, 7);
        gains(x, 2, 2, 40, 0, Checks.NONE, Checks.NONE);
        gains(x, 2, 0, 40, 2, 6, 18);
        gains(x, 3, 2, 40, 1, 0, 0);
        c.due("what 3", x.gains(0, 0, 0, 3), Checks.BAD);
        c.due("what -1", x.gains(0, 0, 0, -1), Checks.BAD);
        c.due("n 41", x.gains(0, 0, 41, 0), Checks.BAD);
        c.due("n -1", x.gains(0, 0, -1, 0), Checks.BAD);
        c.due("harbour 3", x.gains(0, 3, 0, 0), Checks.BAD);
        c.due("harbour -1", x.gains(0, -1, 0, 0), Checks.BAD);
        c.due("nobody", x.gains(4, 0, 0, 0), Checks.BAD);
        x.stay(0, 99);
        x.stay(0, 99);
        gains(x, 0, 1, 40, 3, 6, 28);
    }

    private static void soonest() {
        YoungerBack x = Checks.with("law 2 0;way 0 1 10 4;way 0 1 3 3;person captain 0 0;person monk 0 0;");
        c.due("at once", x.soonest(0, 0, 0), 0);
        c.due("there", x.soonest(0, 1, 0), 3);
        c.due("just 6", x.soonest(0, 1, 6), 10);
        c.due("just 6, back", x.soonest(0, 0, 6), 13);
        c.due("just 12", x.soonest(0, 0, 12), 20);
        c.due("not 5", x.soonest(0, 0, 5), Checks.NONE);
        c.due("24 within 40", x.soonest(0, 0, 24), 40);
        c.due("24 elsewhere, 43", x.soonest(0, 1, 24), Checks.NONE);
        c.due("monk 40", x.soonest(1, 0, 40), 40);
        c.due("monk 39", x.soonest(1, 1, 39), 39);
        c.due("l 41", x.soonest(0, 0, 41), Checks.BAD);
        c.due("l -1", x.soonest(0, 0, -1), Checks.BAD);
        c.due("harbour 2", x.soonest(0, 2, 0), Checks.BAD);
        c.due("nobody", x.soonest(2, 0, 0), Checks.BAD);
    }

    private static void voyages() {
        YoungerBack x = Checks.with("law 5 0;way 0 1 20 4;way 1 2 20 0;way 2 3 20 0;way 3 0 9 9;person captain 0 0;person boy 0 0;");
        int[] captain = {0, 1, 2, 1, Checks.NONE};
        int[] boy = {0, Checks.NONE, Checks.NONE, 1, Checks.NONE};
        for (int h = 0; h < 5; h++) {
            c.due("captain to " + h, x.voyages(0, h), captain[h]);
            c.due("boy to " + h, x.voyages(1, h), boy[h]);
        }
        x.sail(0, 0);
        c.due("from 1", x.voyages(0, 3), 2);
        c.due("harbour 5", x.voyages(0, 5), Checks.BAD);
        c.due("harbour -1", x.voyages(0, -1), Checks.BAD);
        c.due("nobody", x.voyages(2, 0), Checks.BAD);
        YoungerBack far = Checks.with("law 5 0;way 0 1 20 4;way 1 2 20 0;way 2 3 20 0;way 3 4 20 9;person clerk 4 0;");
        c.due("in any time", far.voyages(0, 0), 4);
        c.due("though not within 40 years", far.gains(0, 0, 40, 0), 0);
        Checks.read(far, "law 5 0;way 0 1 1 1;person clerk 1 0;");
        c.due("ways of the league before are none", far.voyages(0, 2), Checks.NONE);
        c.due("ways of the league before are none", far.gains(0, 2, 40, 0), 0);
    }

    private static void even() {
        YoungerBack x = Checks.with("law 2 0;way 0 1 5 1;person captain 0 30;person clerk 0 26;person clerk 1 22;person clerk 0 5;");
        // he gains four at harbour 1 behind five years
        c.due("uncle and nephew", x.even(0, 1, 1), 5);
        c.due("the other way round", x.even(1, 0, 1), 5);
        c.due("here: he gains eight", x.even(0, 2, 0), 10);
        c.due("never", x.even(0, 3, 0), Checks.NONE);
        c.due("two clerks never", x.even(1, 2, 0), Checks.NONE);
        c.due("alike", x.even(0, 0, 0), Checks.BAD);
        c.due("nobody", x.even(0, 4, 0), Checks.BAD);
        c.due("nobody", x.even(-1, 0, 0), Checks.BAD);
        c.due("harbour 2", x.even(0, 1, 2), Checks.BAD);
        x.stay(1, 7);
        c.due("not ahead of either CLOCK", x.even(0, 1, 1), 12);
        c.due("there he gains four, twelve, not eight", x.even(0, 2, 1), Checks.NONE);
    }

    private static void evenEdges() {
        YoungerBack x = Checks.with("law 2 0;way 0 1 20 0;person monk 0 40;person clerk 0 0;person clerk 0 40;");
        c.due("at once", x.even(0, 2, 0), 0);
        c.due("40 years behind", x.even(0, 1, 0), 40);
        x.stay(1, 1);
        c.due("41 of the one, too far", x.even(0, 1, 0), 40);
        x.undo();
        x.stay(2, 40);
        c.due("at the end of his 40", x.even(0, 2, 0), 40);
        x.stay(2, 1);
        c.due("beyond his 40", x.even(0, 2, 0), Checks.NONE);
        c.due("beyond, the other way round", x.even(2, 0, 0), Checks.NONE);
        YoungerBack late = Checks.with("law 2 0;way 0 1 20 0;person captain 0 40;person clerk 0 20;");
        late.stay(0, 95);
        late.stay(0, 95);
        late.stay(1, 95);
        late.stay(1, 95);
        c.due("CLOCK may be beyond 200", late.even(0, 1, 1), 210);
    }

    private static void where() {
        YoungerBack x = Checks.with("law 3 0;way 0 1 5 1;way 1 2 5 5;person captain 0 30;person monk 2 0;");
        c.due("here", x.where(0, 0, 30), 1);
        c.due("not there", x.where(0, 0, 31), 0);
        c.due("stayed", x.where(0, 4, 34), 1);
        c.due("gained 4", x.where(0, 5, 31), 2);
        c.due("gained 4 in 10", x.where(0, 10, 36), 6);
        c.due("gained 8 in 10", x.where(0, 10, 32), 1);
        c.due("gained 8 in 40", x.where(0, 40, 62), 1);
        c.due("40 years", x.where(0, 40, 70), 1);
        c.due("41 years", x.where(0, 41, 71), 0);
        c.due("monk, 40 years", x.where(1, 40, 0), 5);
        c.due("younger than can be", x.where(1, 39, 0), 0);
        x.stay(0, 3);
        c.due("ahead of his CLOCK", x.where(0, 2, 32), 0);
        c.due("now", x.where(0, 3, 33), 1);
        c.due("40 behind", x.where(0, 43, 73), 1);
        c.due("41 behind", x.where(0, 44, 74), 0);
        c.due("clock 201", x.where(0, 201, 0), Checks.BAD);
        c.due("clock -1", x.where(0, -1, 0), Checks.BAD);
        c.due("age 400", x.where(0, 0, 400), Checks.BAD);
        c.due("age -1", x.where(0, 0, -1), Checks.BAD);
        c.due("nobody", x.where(2, 0, 0), Checks.BAD);
        c.due("age 399", x.where(0, 200, 399), 0);
        YoungerBack all = Checks.with("law 5 0;way 0 1 5 5;way 1 2 5 5;way 0 4 5 5;person captain 0 0;");
        c.due("all but one", all.where(0, 10, 10), 0b10111);
    }

    private static void gone() {
        YoungerBack x = Checks.with("law 2 10;way 0 1 5 1;person captain 0 30;person clerk 0 30;");
        c.due("owes nothing", x.gone(0), 0);
        x.borrow(0, 1000);
        x.borrow(1, 1000);
        c.due("at once", x.gone(0), 0);
        x.sail(0, 0);
        x.sail(1, 0);
        c.due("five years and one", x.gone(0), 1610 - 1100);
        c.due("a clerk", x.gone(1), 0);
        c.due("nobody", x.gone(2), Checks.BAD);
        c.due("nobody", x.gone(-1), Checks.BAD);
    }

    private static void eldest() {
        YoungerBack x = new YoungerBack();
        c.due("no league, ahead of BAD", x.eldest(2), Checks.STATE);
        Checks.read(x, "law 2 0;");
        c.due("nobody", x.eldest(0), Checks.NONE);
        c.due("nobody", x.eldest(1), Checks.NONE);
        c.due("what 2", x.eldest(2), Checks.BAD);
        c.due("what -1", x.eldest(-1), Checks.BAD);
        Checks.read(x, "law 2 0;way 0 1 5 1;person boy 0 0;person captain 0 50;person clerk 0 50;");
        c.due("the first", x.eldest(0), 1);
        c.due("the first", x.eldest(1), 1);
        x.stay(2, 1);
        c.due("by age", x.eldest(0), 2);
        c.due("by birth", x.eldest(1), 1);
        x.stay(0, 99);
        c.due("by age", x.eldest(0), 0);
        Checks.read(x, "law 2 0;person boy 0 0;");
        c.due("of age 0", x.eldest(0), 0);
    }

    private static void nothingChanges() {
        YoungerBack x = Checks.with("law 2 10;way 0 1 5 1;person captain 0 30;person clerk 0 26;");
        x.drop(0);
        x.borrow(0, 100);
        x.gains(0, 0, 40, 0);
        x.soonest(0, 0, 8);
        x.voyages(0, 1);
        x.even(0, 1, 1);
        x.where(0, 10, 36);
        x.gone(0);
        x.eldest(0);
        c.person(x, 0, 0, 0, 30, 0, 100, 100);
        c.person(x, 1, 0, 0, 26, 0, 0, 0);
        c.due("acts", x.count(4), 1);
        c.due("status", x.status(), 1);
    }
}
