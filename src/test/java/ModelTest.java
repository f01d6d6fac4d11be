/** Long runs of calls, each answer held against that of the Model. The draws are always the same. */
public final class ModelTest {
    private static final Checks c = new Checks("ModelTest");
    private static final int RUNS = 400, CALLS = 300;
    private static final String[] SORTS = {"captain", "pilot", "monk", "clerk", "boy"};
    private static final int[] ODD = {-1, 5, 6, 8, 9, 24, 25, 40, 41, 99, 100, 200, 201, 400, 10000, Integer.MAX_VALUE, Integer.MIN_VALUE};

    private static long seed = 20261118L;

    public static void main(String[] args) {
        for (int run = 0; run < RUNS; run++) {
            run(run);
        }
        c.end();
    }

    private static int draw(int n) {
        seed = seed * 6364136223846793005L + 1442695040888963407L;
        return (int) ((seed >>> 33) % n);
    }

    /** A number from 0 to most, or now and then an odd one. */
    private static int some(int most) {
        return draw(14) == 0 ? ODD[draw(ODD.length)] : draw(most + 1);
    }

    private static void run(int run) {
        YoungerBack x = new YoungerBack();
        Model m = new Model();
        int made = read(run, x, m);
        while (made < CALLS) {
            if (draw(60) == 0) {
                made += read(run, x, m);
            } else {
                one(run, x, m);
                made++;
            }
            c.due("run " + run + ": status", x.status(), m.status());
            c.due("run " + run + ": acts", x.count(4), m.count(4));
        }
        state(run, x, m);
    }

    private static void state(int run, YoungerBack x, Model m) {
        for (int p = 0; p < 4; p++) {
            for (int what = 0; what < 6; what++) {
                c.due("run " + run + ": person(" + p + ", " + what + ")", x.person(p, what), m.person(p, what));
            }
        }
        for (int what = 0; what < 7; what++) {
            c.due("run " + run + ": count(" + what + ")", x.count(what), m.count(what));
        }
        c.due("run " + run + ": fault()", x.fault(), m.fault());
    }

    private static int read(int run, YoungerBack x, Model m) {
        String text = text();
        int made = 0;
        for (int i = 0; i < text.length(); i += 8) {
            int n = Math.min(8, text.length() - i);
            long w = draw(1000);
            for (int k = 0; k < n; k++) {
                w = w << 8 | text.charAt(i + k);
            }
            c.due("run " + run + ": feed of " + text, x.feed(w, n), m.feed(w, n));
            made++;
        }
        c.due("run " + run + ": league of " + text, x.league(), m.league());
        c.due("run " + run + ": fault of " + text, x.fault(), m.fault());
        return made + 2;
    }

    private static String text() {
        int harbours = 1 + draw(5);
        StringBuilder t = new StringBuilder("law " + harbours + " " + draw(21) + ";");
        int ways = harbours == 1 ? 0 : draw(9);
        for (int w = 0; w < ways; w++) {
            int a = draw(harbours);
            int shore = 1 + draw(draw(2) == 0 ? 20 : 7);
            t.append("way ").append(a).append(' ').append((a + 1 + draw(harbours - 1)) % harbours);
            t.append(' ').append(shore).append(' ').append(draw(shore + 1)).append(';');
        }
        int people = draw(8) == 0 ? draw(5) : 2 + draw(3);
        for (int p = 0; p < people; p++) {
            t.append("person ").append(SORTS[draw(5)]).append(' ').append(draw(harbours)).append(' ').append(draw(100)).append(';');
        }
        for (int spoilt = draw(4) == 0 ? 1 + draw(2) : 0; spoilt > 0; spoilt--) {
            spoil(t);
        }
        return t.toString();
    }

    private static void spoil(StringBuilder t) {
        int at = draw(t.length());
        String bytes = "0123456789; \nwayperson\u00ff";
        char other = bytes.charAt(draw(bytes.length()));
        switch (draw(4)) {
            case 0:
                t.setCharAt(at, other);
                break;
            case 1:
                t.insert(at, other);
                break;
            case 2:
                t.deleteCharAt(at);
                break;
            default:
                t.append(t.substring(at));
                t.setLength(Math.min(t.length(), 390));
                break;
        }
    }

    /** One call, alike on both. */
    private static void one(int run, YoungerBack x, Model m) {
        int which = draw(40);
        int a = some(3);
        int b = some(4);
        int d = some(40);
        int e = some(40);
        String call = "run " + run + ": call " + which + " of " + a + ", " + b + ", " + d + ", " + e;
        if (which < 12) {
            onRows(call, which, x, m, a, b, d, e);
        } else if (which < 22) {
            acting(call, which, x, m, a, b, d);
        } else if (which < 31) {
            foretelling(call, which, x, m, a, b, d, e);
        } else {
            asking(call, which, x, m, a, b, d);
        }
    }

    private static void onRows(String call, int which, YoungerBack x, Model m, int a, int b, int d, int e) {
        int lane = draw(8) == 0 ? some(2) : 2;
        int n = some(6);
        switch (which) {
            case 0: c.due(call, x.row(a, lane, d), m.row(a, lane, d)); break;
            case 1: c.due(call, x.drop(a), m.drop(a)); break;
            case 2: c.due(call, x.copy(a, d, b, e, n), m.copy(a, d, b, e, n)); break;
            case 3: c.due(call, x.copy(a, d, a, e, n), m.copy(a, d, a, e, n)); break;
            case 4: c.due(call, x.set(a, d, e * 3000), m.set(a, d, e * 3000)); break;
            case 5: case 6: case 7: c.due(call, x.set(a, d, b), m.set(a, d, b)); break;
            case 8: c.due(call, x.row(a, lane, 40), m.row(a, lane, 40)); break;
            default: c.due(call, x.sails(b, a, d, n), m.sails(b, a, d, n)); break;
        }
    }

    private static void acting(String call, int which, YoungerBack x, Model m, int a, int b, int d) {
        int way = some(7);
        int sum = some(9999);
        switch (which) {
            case 12: case 13: case 14: case 15: c.due(call, x.sail(a, way), m.sail(a, way)); break;
            case 16: case 17: c.due(call, x.stay(a, d), m.stay(a, d)); break;
            case 18: c.due(call, x.meet(a, b), m.meet(a, b)); break;
            case 19: c.due(call, x.borrow(a, sum), m.borrow(a, sum)); break;
            case 20: c.due(call, x.undo(), m.undo()); break;
            default: c.due(call, x.person(a, b), m.person(a, b)); break;
        }
    }

    private static void foretelling(String call, int which, YoungerBack x, Model m, int a, int b, int d, int e) {
        int what = some(2);
        int other = some(3);
        // a clock and an age near his own, which he may come to
        int clock = Math.max(x.person(a, 1), 0) + e - 2;
        int age = Math.max(x.person(a, 2), 0) + d - 2;
        switch (which) {
            case 22: case 23: c.due(call, x.gains(a, b, d, what), m.gains(a, b, d, what)); break;
            case 24: c.due(call, x.soonest(a, b, d), m.soonest(a, b, d)); break;
            case 25: c.due(call, x.voyages(a, b), m.voyages(a, b)); break;
            case 26: case 27: c.due(call, x.even(a, other, b), m.even(a, other, b)); break;
            case 28: c.due(call, x.where(a, clock, age), m.where(a, clock, age)); break;
            case 29: c.due(call, x.gone(a), m.gone(a)); break;
            default: c.due(call, x.eldest(what), m.eldest(what)); break;
        }
    }

    private static void asking(String call, int which, YoungerBack x, Model m, int a, int b, int d) {
        int what = some(1);
        switch (which) {
            case 31: c.due(call, x.image(what), m.image(what)); break;
            case 32: c.due(call, x.restore(what), m.restore(what)); break;
            case 33: c.due(call, x.kind(a), m.kind(a)); break;
            case 34: c.due(call, x.as(a, b), m.as(a, b)); break;
            case 35: case 36: c.due(call, x.ask(a, what), m.ask(a, what)); break;
            case 37: case 38: c.due(call, x.trace(b), m.trace(b)); break;
            default: c.due(call, x.count(d), m.count(d)); break;
        }
    }
}
