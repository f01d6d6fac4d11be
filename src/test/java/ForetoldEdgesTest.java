/** The edges of GAINS, SOONEST, VOYAGES, EVEN, WHERE, GONE and ELDEST. */
public final class ForetoldEdgesTest {
    private static final Checks c = new Checks("ForetoldEdgesTest");
    private static final String[] SORTS = {"", "captain", "pilot", "monk", "clerk", "boy"};
    private static final int NONE = Checks.NONE, MOST = 40;
    /** A monk who sails a year to and fro gains all of them, and just as many as he sails. */
    private static final String MONK = "law 3 0;way 0 1 1 1;person monk 0 30;person clerk 0 30;";
    private static final String CHAIN = "law 5 0;way 0 1 20 0;way 1 2 20 0;way 2 3 1 0;way 3 4 20 0;";

    public static void main(String[] args) {
        gainsOfNow();
        gainsOfOneWay();
        gainsOf40();
        gainsFromNowOn();
        gainsBeyond200();
        soonestOf40();
        soonestJustSo();
        voyagesInAnyTime();
        voyagesOfBoys();
        waysOfBefore();
        evenAtOnce();
        evenBehind40();
        evenOfAllAges();
        evenOfTwoClocks();
        evenOfGains();
        evenBeyond200();
        evenThere();
        whereByClock();
        whereByAge();
        whereAll();
        gone();
        eldestOfSeveral();
        eldestAtClock0();
        eldestBehindOthers();
        c.end();
    }

    private static void gains(YoungerBack x, int p, int h, int n, int many, int least, int greatest) {
        String call = "gains(" + p + ", " + h + ", " + n + ")";
        c.due(call + " many", x.gains(p, h, n, 0), many);
        c.due(call + " least", x.gains(p, h, n, 1), least);
        c.due(call + " greatest", x.gains(p, h, n, 2), greatest);
    }

    private static YoungerBack at200(String text, int people) {
        YoungerBack x = Checks.with(text);
        for (int p = 0; p < people; p++) {
            x.stay(p, 99);
            x.stay(p, 99);
            x.stay(p, 2);
            c.due("CLOCK", x.person(p, 1), 200);
        }
        return x;
    }

    private static void gainsOfNow() {
        c.says("by how much his LAG can be more then, being there: how many such numbers there are; the least; the greatest; NONE.");
        for (int sort = 1; sort <= 5; sort++) {
            YoungerBack x = Checks.with("law 3 0;way 0 1 1 0;person " + SORTS[sort] + " 0 0;");
            gains(x, 0, 0, 0, 1, 0, 0);
            gains(x, 0, 1, 0, 0, NONE, NONE);
            gains(x, 0, 2, 0, 0, NONE, NONE);
            gains(x, 0, 2, MOST, 0, NONE, NONE);
        }
        YoungerBack still = Checks.with("law 2 0;person monk 1 0;");
        for (int n = 0; n <= MOST; n++) {
            gains(still, 0, 1, n, 1, 0, 0);
            gains(still, 0, 0, n, 0, NONE, NONE);
        }
    }

    private static int gainOf(int sort, int shore, int own) {
        switch (sort) {
            case 2: return own == 0 ? shore : shore - own + 1;
            case 3: return shore;
            case 4: return 0;
            default: return shore - own;
        }
    }

    private static void gainsOfOneWay() {
        c.says("GAINS in a HARBOUR behind n years of the shore's (0 to 40)");
        for (int sort = 1; sort <= 5; sort++) {
            for (int shore = 1; shore <= 20; shore++) {
                gainsOfOneWay(sort, shore, 0);
                gainsOfOneWay(sort, shore, 1);
                gainsOfOneWay(sort, shore, shore);
            }
        }
    }

    private static void gainsOfOneWay(int sort, int shore, int own) {
        YoungerBack x = Checks.with("law 2 0;way 1 0 " + shore + " " + own + ";person " + SORTS[sort] + " 0 50;");
        int gain = gainOf(sort, shore, own);
        gains(x, 0, 1, shore - 1, 0, NONE, NONE);
        if (sort == 5 && shore > 10) {
            gains(x, 0, 1, shore, 0, NONE, NONE);
            gains(x, 0, 1, MOST, 0, NONE, NONE);
            gains(x, 0, 0, MOST, 1, 0, 0);
            return;
        }
        gains(x, 0, 1, shore, 1, gain, gain);
        gains(x, 0, 0, 2 * shore - 1, 1, 0, 0);
        gains(x, 0, 0, 2 * shore, gain == 0 ? 1 : 2, 0, 2 * gain);
        c.due("soonest() there", x.soonest(0, 1, gain), shore);
        c.due("where() there", x.where(0, shore, 50 + shore - gain), gain == 0 ? 3 : 2);
    }

    private static void gainsOf40() {
        YoungerBack x = Checks.with(MONK);
        for (int n = 0; n <= MOST; n++) {
            gains(x, 0, 0, n, n / 2 + 1, 0, n - n % 2);
            gains(x, 0, 1, n, (n + 1) / 2, n == 0 ? NONE : 1, n == 0 ? NONE : n - 1 + n % 2);
            gains(x, 1, 0, n, 1, 0, 0);
            gains(x, 1, 1, n, n == 0 ? 0 : 1, n == 0 ? NONE : 0, n == 0 ? NONE : 0);
        }
        YoungerBack far = Checks.with("law 3 0;way 0 1 20 0;way 1 2 20 0;person captain 0 0;person pilot 0 0;");
        for (int p = 0; p <= 1; p++) {
            gains(far, p, 2, 39, 0, NONE, NONE);
            gains(far, p, 2, 40, 1, 40, 40);
            gains(far, p, 0, 39, 1, 0, 0);
            gains(far, p, 0, 40, 2, 0, 40);
        }
        YoungerBack beyond = Checks.with("law 4 0;way 0 1 20 0;way 1 2 20 0;way 2 3 1 0;person captain 0 0;");
        gains(beyond, 0, 2, 40, 1, 40, 40);
        gains(beyond, 0, 3, 40, 0, NONE, NONE);
    }

    private static void gainsFromNowOn() {
        c.says("FORETOLD (nothing changes), of one from now on, SAILING and STAYING as he likes");
        YoungerBack x = Checks.with("law 3 0;way 0 1 10 4;way 1 2 3 3;person captain 0 30;");
        gains(x, 0, 1, 10, 1, 6, 6);
        x.sail(0, 0);
        c.due("LAG", x.person(0, 3), 6);
        gains(x, 0, 1, 0, 1, 0, 0);
        gains(x, 0, 0, 10, 1, 6, 6);
        gains(x, 0, 2, 3, 1, 0, 0);
        gains(x, 0, 2, 2, 0, NONE, NONE);
        c.due("soonest() of now", x.soonest(0, 1, 0), 0);
        c.due("soonest() of more", x.soonest(0, 0, 6), 10);
        c.due("voyages() of now", x.voyages(0, 1), 0);
        x.undo();
        gains(x, 0, 1, 0, 0, NONE, NONE);
        gains(x, 0, 2, 13, 1, 6, 6);
    }

    private static void gainsBeyond200() {
        c.says("(whether CLOCK is beyond 200 then or not)");
        String text = CHAIN + "person monk 0 0;person captain 2 9;";
        YoungerBack early = Checks.with(text);
        YoungerBack late = at200(text, 2);
        c.due("he can't sail any more", late.sail(0, 0), Checks.FULL);
        for (int p = 0; p <= 1; p++) {
            for (int h = 0; h < 5; h++) {
                for (int n = 0; n <= MOST; n += 10) {
                    c.due("gains() at 200", late.gains(p, h, n, 0), early.gains(p, h, n, 0));
                    c.due("greatest at 200", late.gains(p, h, n, 2), early.gains(p, h, n, 2));
                }
                c.due("soonest() at 200", late.soonest(p, h, 20), early.soonest(p, h, 20));
                c.due("voyages() at 200", late.voyages(p, h), early.voyages(p, h));
            }
        }
        gains(late, 0, 2, 40, 1, 40, 40);
        c.due("40 years at 200", late.soonest(0, 2, 40), 40);
        c.due("4 voyages at 200", late.voyages(0, 4), 4);
    }

    private static void soonestOf40() {
        c.says("the fewest years (0 to 40) behind which he can be there with just that; NONE.");
        YoungerBack x = Checks.with(CHAIN + "person captain 0 0;person boy 0 0;person captain 1 0;");
        c.due("0 years", x.soonest(0, 0, 0), 0);
        c.due("20 years", x.soonest(0, 1, 20), 20);
        c.due("40 years", x.soonest(0, 2, 40), 40);
        c.due("40 years, back", x.soonest(0, 0, 40), 40);
        c.due("41 years", x.soonest(2, 4, 40), NONE);
        c.due("21 years", x.soonest(2, 3, 21), 21);
        c.due("a boy may not", x.soonest(1, 1, 20), NONE);
        c.due("41 years of the captain", x.soonest(0, 3, 40), NONE);
        c.due("and with any other gain", x.soonest(0, 3, 0), NONE);
        YoungerBack close = Checks.with("law 3 0;way 0 1 20 0;way 1 2 20 20;way 0 2 20 19;person captain 0 0;");
        c.due("20 of 40", close.soonest(0, 2, 20), 40);
        c.due("1 of 20", close.soonest(0, 2, 1), 20);
        c.due("2, which is 2 at home", close.soonest(0, 0, 2), 40);
    }

    private static void soonestJustSo() {
        YoungerBack x = Checks.with("law 2 0;way 0 1 7 4;way 0 1 9 9;person captain 0 0;");
        int[] there = {9, NONE, NONE, 7, NONE, NONE, 23, NONE, NONE, 21, NONE, NONE, 37, NONE, NONE, 35, NONE};
        int[] here = {0, NONE, NONE, 16, NONE, NONE, 14, NONE, NONE, 30, NONE, NONE, 28, NONE, NONE, NONE, NONE};
        for (int l = 0; l < there.length; l++) {
            c.due("soonest(0, 1, " + l + ")", x.soonest(0, 1, l), there[l]);
            c.due("soonest(0, 0, " + l + ")", x.soonest(0, 0, l), here[l]);
        }
        YoungerBack monk = Checks.with(MONK);
        for (int l = 0; l <= MOST; l++) {
            c.due("soonest(0, 0, " + l + ") of a monk", monk.soonest(0, 0, l), l % 2 == 0 ? l : NONE);
            c.due("soonest(0, 1, " + l + ") of a monk", monk.soonest(0, 1, l), l % 2 == 1 ? l : NONE);
            c.due("soonest(0, 2, " + l + ") of a monk", monk.soonest(0, 2, l), NONE);
        }
    }

    private static void voyagesInAnyTime() {
        c.says("VOYAGES to a HARBOUR: the fewest that he must SAIL (in any time); NONE.");
        YoungerBack x = Checks.with(CHAIN + "person captain 0 0;person pilot 4 0;person monk 2 0;person clerk 1 0;");
        int[] at = {0, 4, 2, 1};
        for (int p = 0; p < 4; p++) {
            for (int h = 0; h < 5; h++) {
                c.due("voyages(" + p + ", " + h + ")", x.voyages(p, h), Math.abs(at[p] - h));
            }
        }
        YoungerBack ring = Checks.with("law 5 0;way 0 1 1 0;way 1 2 1 0;way 2 3 1 0;way 3 4 1 0;way 4 0 20 0;person boy 0 0;person clerk 0 0;");
        c.due("round the short way", ring.voyages(0, 4), 4);
        c.due("round the other way", ring.voyages(1, 4), 1);
        c.due("three", ring.voyages(0, 3), 3);
        c.due("two", ring.voyages(1, 3), 2);
        YoungerBack none = Checks.with("law 5 0;way 1 2 1 0;way 3 4 1 0;person captain 0 0;person captain 1 0;");
        for (int h = 0; h < 5; h++) {
            c.due("without a way to " + h, none.voyages(0, h), h == 0 ? 0 : NONE);
            c.due("with one way to " + h, none.voyages(1, h), h == 1 ? 0 : h == 2 ? 1 : NONE);
        }
    }

    private static void waysOfBefore() {
        c.says("A LEAGUE that is read stands in place of the one before (none at first):");
        YoungerBack x = Checks.with(CHAIN + "person captain 0 0;");
        x.gains(0, 4, 40, 0);
        Checks.read(x, "law 5 0;way 0 1 3 3;person captain 0 0;person captain 0 0;");
        for (int h = 2; h < 5; h++) {
            c.due("no way any more to " + h, x.voyages(0, h), NONE);
            gains(x, 0, h, 40, 0, NONE, NONE);
            c.due("no way any more to " + h, x.soonest(0, h, 40), NONE);
            c.due("no way any more to " + h, x.even(0, 1, h), NONE);
        }
        c.due("no way any more", x.where(0, 40, 40), 3);
        c.due("no gain any more", x.where(0, 40, 0), 0);
    }

    private static void voyagesOfBoys() {
        c.says("a boy sails as a captain, but no way with a SHORE above 10.");
        YoungerBack x = Checks.with("law 4 0;way 0 1 11 0;way 0 2 10 0;way 2 1 10 0;way 1 3 20 0;person boy 0 0;person captain 0 0;");
        c.due("round by two of 10", x.voyages(0, 1), 2);
        c.due("by one of 11", x.voyages(1, 1), 1);
        c.due("none but one of 20", x.voyages(0, 3), NONE);
        c.due("two", x.voyages(1, 3), 2);
        gains(x, 0, 1, 11, 0, NONE, NONE);
        gains(x, 1, 1, 11, 1, 11, 11);
        gains(x, 0, 1, 20, 1, 20, 20);
        c.due("soonest() of the boy", x.soonest(0, 1, 11), NONE);
        c.due("soonest() of the boy", x.soonest(0, 1, 20), 20);
        c.due("where() of the boy", x.where(0, 11, 0), 0);
        c.due("where() of the captain", x.where(1, 11, 0), 2);
        c.due("even() of both", x.even(0, 1, 1), 20);
        c.due("even() where he may not", x.even(0, 1, 3), NONE);
    }

    private static void evenAtOnce() {
        c.says("the least CLOCK (not ahead of that of either; 40 years at most behind that of each) at which both can be there, and of one AGE; NONE.");
        YoungerBack x = Checks.with("law 2 0;way 0 1 5 5;person captain 0 30;person clerk 0 30;person clerk 1 30;person boy 1 31;");
        c.due("here and now", x.even(0, 1, 0), 0);
        c.due("there, both", x.even(0, 1, 1), 5);
        c.due("where the other one is", x.even(0, 2, 1), 5);
        c.due("where he is", x.even(0, 2, 0), 5);
        c.due("a year apart", x.even(2, 3, 1), NONE);
        x.stay(1, 12);
        c.due("not ahead of that of the one", x.even(0, 1, 0), 12);
        c.due("nor of the other one", x.even(1, 0, 0), 12);
        c.due("both there", x.even(0, 1, 1), 17);
        x.stay(0, 12);
        c.due("both of them later", x.even(0, 1, 0), 12);
    }

    private static void evenBehind40() {
        for (int apart = 38; apart <= 42; apart++) {
            YoungerBack x = Checks.with("law 2 0;way 0 1 1 0;person captain 0 " + (10 + apart) + ";person clerk 0 10;");
            int here = apart % 2 == 0 && apart <= MOST ? apart : NONE;
            int there = apart % 2 == 1 && apart <= MOST ? apart : NONE;
            c.due(apart + " years elder, here", x.even(0, 1, 0), here);
            c.due(apart + " years elder, there", x.even(0, 1, 1), there);
            c.due("the other way round", x.even(1, 0, 0), here);
            c.due("the other way round", x.even(1, 0, 1), there);
        }
        YoungerBack x = Checks.with("law 4 0;way 0 1 20 20;way 1 2 20 20;way 2 3 1 1;person captain 0 30;person clerk 0 30;person clerk 1 30;");
        c.due("both behind 40", x.even(0, 1, 2), 40);
        c.due("both behind 41", x.even(0, 1, 3), NONE);
        c.due("one of them behind 41", x.even(0, 2, 3), NONE);
    }

    /** Two who gain one by one: of as many years apart as the one can gain they can be even, of no more. */
    private static void evenOfAllAges() {
        for (int age = 0; age <= 99; age++) {
            YoungerBack x = Checks.with("law 2 0;way 0 1 2 1;person captain 0 " + age + ";person clerk 0 0;person clerk 0 99;");
            c.due("elder by " + age, x.even(0, 1, age % 2), age <= 20 ? 2 * age : NONE);
            c.due("younger by " + age, x.even(1, 0, age % 2), age <= 20 ? 2 * age : NONE);
            c.due("younger than a clerk by " + (99 - age), x.even(0, 2, 0), age == 99 ? 0 : NONE);
            c.due("a clerk, elder by " + (99 - age), x.even(2, 0, 0), age == 99 ? 0 : NONE);
            YoungerBack y = Checks.with("law 2 0;way 0 1 1 1;person monk 0 " + age + ";person clerk 0 0;");
            c.due("a monk, elder by " + age, y.even(0, 1, age % 2), age <= MOST ? age : NONE);
            c.due("a clerk, younger by " + age, y.even(1, 0, age % 2), age <= MOST ? age : NONE);
        }
        YoungerBack apart = Checks.with("law 2 0;way 0 1 1 1;person monk 0 99;person clerk 0 0;");
        for (int clock = 0; clock <= 200; clock++) {
            // 99 years elder and behind by 0 to 200: by more than 40 never, for the clocks or for the ages
            c.due("99 elder, the other one at " + clock, apart.even(0, 1, 0), NONE);
            if (clock < 200) {
                apart.stay(1, 1);
            }
        }
    }

    private static void evenOfTwoClocks() {
        for (int later = 0; later <= 42; later++) {
            YoungerBack x = Checks.with("law 2 0;person captain 0 30;person clerk 0 30;");
            if (later > 0) {
                x.stay(1, later);
            }
            c.due("later by " + later, x.even(0, 1, 0), later <= MOST ? later : NONE);
            c.due("earlier by " + later, x.even(1, 0, 0), later <= MOST ? later : NONE);
        }
        YoungerBack x = Checks.with("law 2 0;way 0 1 10 10;person captain 0 30;person clerk 0 30;");
        x.stay(1, 30);
        c.due("40 behind the one, 10 behind the other", x.even(0, 1, 1), 40);
        x.stay(1, 1);
        c.due("41 behind the one", x.even(0, 1, 1), NONE);
        c.due("41 behind the other", x.even(1, 0, 1), NONE);
        x.stay(0, 1);
        c.due("40 behind the one again", x.even(0, 1, 1), 41);
    }

    private static void evenOfGains() {
        YoungerBack x = Checks.with("law 2 0;way 0 1 10 4;person captain 0 36;person clerk 0 30;person captain 0 42;person captain 0 43;");
        c.due("6 by one voyage", x.even(0, 1, 1), 10);
        c.due("6 here: never, by 12 at a time", x.even(0, 1, 0), NONE);
        c.due("12 by two", x.even(2, 1, 0), 20);
        c.due("both sail, the elder one oftener", x.even(2, 0, 0), NONE);
        c.due("13: never", x.even(3, 1, 0), NONE);
        c.due("13 there: never", x.even(3, 1, 1), NONE);
        YoungerBack monks = Checks.with("law 2 0;way 0 1 1 1;person monk 0 99;person monk 0 60;person monk 0 59;");
        c.due("39, at home by 2 at a time", monks.even(0, 1, 0), NONE);
        c.due("40 by 40", monks.even(0, 2, 0), 40);
        c.due("1 apart", monks.even(1, 2, 0), NONE);
        c.due("1 apart, there", monks.even(1, 2, 1), NONE);
    }

    private static void evenBeyond200() {
        YoungerBack x = at200("law 2 0;way 0 1 20 0;person monk 0 40;person clerk 0 0;person clerk 0 40;", 3);
        c.due("at 200", x.even(0, 2, 0), 200);
        c.due("at 240", x.even(0, 1, 0), 240);
        c.due("at 240, the other way round", x.even(1, 0, 0), 240);
    }

    private static void evenThere() {
        YoungerBack x = Checks.with("law 3 0;way 0 1 3 3;person captain 0 30;person boy 2 30;person boy 0 30;");
        for (int h = 0; h < 3; h++) {
            c.due("never at one place", x.even(0, 1, h), NONE);
            c.due("never there", x.even(0, 2, h), h == 0 ? 0 : h == 1 ? 3 : NONE);
        }
    }

    private static void whereByClock() {
        c.says("none, if CLOCK is ahead of his, or more than 40 years behind it.");
        int[] clocks = {0, 1, 39, 40, 99, 159, 160, 161, 199, 200};
        for (int clock : clocks) {
            YoungerBack x = Checks.with("law 2 0;person clerk 1 50;");
            for (int left = clock; left > 0; left -= 99) {
                x.stay(0, Math.min(left, 99));
            }
            for (int asked = 0; asked <= 200; asked++) {
                boolean can = asked >= clock && asked <= clock + MOST;
                c.due("where(0, " + asked + ") of " + clock, x.where(0, asked, 50 + asked), can ? 2 : 0);
            }
        }
        YoungerBack monk = Checks.with(MONK);
        c.due("40 years, of no age", monk.where(0, 40, 30), 1);
        c.due("41 years, of no age", monk.where(0, 41, 30), 0);
        c.due("39 years, of no age", monk.where(0, 39, 30), 2);
        monk.stay(0, 2);
        c.due("ahead of his", monk.where(0, 0, 30), 0);
        c.due("ahead of his", monk.where(0, 1, 31), 0);
        c.due("his", monk.where(0, 2, 32), 1);
        c.due("42, of no age", monk.where(0, 42, 32), 1);
        c.due("43, of no age", monk.where(0, 43, 32), 0);
    }

    private static void whereByAge() {
        c.says("WHERE: HARBOURS (bits) in which one can be with a told CLOCK and AGE.");
        YoungerBack x = Checks.with(MONK);
        for (int age = 0; age <= 399; age++) {
            int young = 40 + 30 - age;
            int bits = young < 0 || young > 40 ? 0 : young % 2 == 0 ? 1 : 2;
            c.due("monk of 40 and " + age, x.where(0, 40, age), bits);
        }
        YoungerBack y = Checks.with(MONK);
        for (int age = 0; age <= 399; age++) {
            c.due("clerk of 40 and " + age, y.where(1, 40, age), age == 70 ? 3 : 0);
        }
        YoungerBack old = at200("law 1 0;person captain 0 99;", 1);
        c.due("the eldest of all", old.where(0, 200, 299), 1);
        c.due("elder", old.where(0, 200, 300), 0);
        c.due("younger", old.where(0, 200, 298), 0);
        c.due("399", old.where(0, 200, 399), 0);
    }

    private static void whereAll() {
        YoungerBack x = Checks.with("law 5 0;way 0 1 5 2;way 0 2 5 2;way 0 3 5 2;way 0 4 5 2;person captain 0 0;person boy 4 0;");
        c.due("the four ends", x.where(0, 5, 2), 0b11110);
        c.due("home", x.where(0, 10, 4), 1);
        c.due("the four ends, waited", x.where(0, 6, 3), 0b11110);
        c.due("the four ends of three voyages", x.where(0, 15, 6), 0b11110);
        c.due("a boy, home", x.where(1, 5, 2), 1);
        c.due("a boy, all but home", x.where(1, 10, 4), 0b11110);
        YoungerBack all = Checks.with("law 5 0;way 0 1 2 2;way 0 2 2 2;way 0 3 2 2;way 0 4 2 2;person captain 0 0;");
        c.due("all of them", all.where(0, 2, 2), 0b11111);
        c.due("only here", all.where(0, 1, 1), 1);
    }

    private static void gone() {
        c.says("GONE: by how much more is OWED by the shore's clock than by his own now.");
        YoungerBack x = Checks.with("law 2 20;way 0 1 20 1;person captain 0 0;person clerk 0 0;person monk 0 0;person pilot 0 0;");
        for (int p = 0; p < 4; p++) {
            c.due("nothing BORROWED", x.gone(p), 0);
            x.borrow(p, 9999);
            c.due("at once", x.gone(p), 0);
            x.sail(p, 0);
            x.sail(p, 0);
            x.sail(p, 0);
        }
        int[] own = {17276, 99999999, 9999, 9999};
        for (int p = 0; p < 4; p++) {
            c.due("OWED by the shore's clock", x.person(p, 4), 99999999);
            c.due("GONE of " + p, x.gone(p), 99999999 - own[p]);
        }
        YoungerBack zero = Checks.with("law 2 0;way 0 1 20 0;person monk 0 0;");
        zero.borrow(0, 9999);
        zero.sail(0, 0);
        c.due("of RATE 0", zero.gone(0), 0);
    }

    private static void eldestOfSeveral() {
        c.says("ELDEST: who is of the greatest AGE now; who was at CLOCK 0; of several the first.");
        int[][] ages = {{0}, {5, 5, 5, 5}, {5, 6, 6, 5}, {5, 5, 6, 6}, {5, 5, 5, 6}, {6, 5, 6, 6}, {0, 0}, {98, 99, 99}, {0, 0, 0, 1}};
        int[] eldest = {0, 0, 1, 2, 3, 0, 0, 1, 3};
        for (int k = 0; k < ages.length; k++) {
            StringBuilder text = new StringBuilder("law 1 0;");
            for (int age : ages[k]) {
                text.append("person monk 0 ").append(age).append(';');
            }
            YoungerBack x = Checks.with(text.toString());
            c.due("now, " + text, x.eldest(0), eldest[k]);
            c.due("at CLOCK 0, " + text, x.eldest(1), eldest[k]);
        }
    }

    private static void eldestAtClock0() {
        YoungerBack x = Checks.with("law 2 0;way 0 1 9 9;person monk 0 50;person boy 1 50;person clerk 0 49;");
        x.stay(1, 1);
        c.due("now", x.eldest(0), 1);
        c.due("at CLOCK 0", x.eldest(1), 0);
        x.sail(2, 0);
        c.due("now", x.eldest(0), 2);
        c.due("at CLOCK 0", x.eldest(1), 0);
        x.sail(0, 0);
        c.due("a monk is no elder", x.eldest(0), 2);
        x.stay(0, 8);
        c.due("of several the first", x.eldest(0), 0);
        c.due("at CLOCK 0", x.eldest(1), 0);
        x.undo();
        c.due("undone", x.eldest(0), 2);
    }

    private static void eldestBehindOthers() {
        c.says("NONE: nobody. BAD; STATE: no LEAGUE (ahead of BAD).");
        YoungerBack x = new YoungerBack();
        Checks.read(x, "law 6 0;");
        c.due("a FAULT reads no LEAGUE", x.eldest(0), Checks.STATE);
        Checks.read(x, "law 1 0;person boy 0 0;");
        c.due("of AGE 0", x.eldest(0), 0);
        x.image(0);
        Checks.read(x, "law 1 0;");
        c.due("nobody", x.eldest(0), NONE);
        c.due("nobody", x.eldest(1), NONE);
        c.due("BAD of nobody", x.eldest(2), Checks.BAD);
        x.image(1);
        x.restore(0);
        c.due("as the IMAGE", x.eldest(1), 0);
        x.restore(1);
        c.due("nobody again", x.eldest(1), NONE);
        Checks.read(x, "law 6 0;");
        c.due("a FAULT leaves the LEAGUE", x.eldest(1), NONE);
    }
}
