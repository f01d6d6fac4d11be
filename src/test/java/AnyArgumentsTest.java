/** No call throws, for any arguments, in many states. */
public final class AnyArgumentsTest {
    private static final Checks c = new Checks("AnyArgumentsTest");
    private static final int[] EDGES = {Integer.MIN_VALUE, Integer.MIN_VALUE + 1, -1000000, -41, -2, -1, 0, 1, 2, 3, 4, 5,
        6, 7, 8, 9, 16, 23, 24, 25, 39, 40, 41, 99, 100, 200, 201, 399, 400, 9999, 10000, Integer.MAX_VALUE - 1,
        Integer.MAX_VALUE};
    private static final int CALLS = 30;

    public static void main(String[] args) {
        for (int state = 0; state < 4; state++) {
            for (int call = 0; call < CALLS; call++) {
                tryAll(state, call);
            }
        }
        c.end();
    }

    private static YoungerBack inState(int state) {
        YoungerBack x = new YoungerBack();
        if (state >= 1) {
            Checks.read(x, "law 5 20;way 0 1 20 0;way 1 4 1 1;person captain 0 99;person monk 0 0;person boy 1 5;person pilot 0 99;");
            x.row(0, 0, 40);
            x.row(1, 0, 0);
            x.row(2, 2, 24);
        }
        if (state == 2) {
            x.image(0);
            for (int k = 0; k < 30; k++) {
                x.sail(1, 0);
                x.borrow(1, 9999);
                x.stay(0, 9);
            }
        }
        if (state == 3) {
            Checks.read(x, "law 1 0;");
            while (x.feed(0x6c6177203130303bL, 8) < 400) {
                x.count(6);
            }
        }
        return x;
    }

    private static void tryAll(int state, int call) {
        YoungerBack x = inState(state);
        for (int a : EDGES) {
            for (int b : EDGES) {
                for (int d : call < 6 ? EDGES : new int[] {b, 0, 1, 40}) {
                    tryOne(x, state, call, a, b, d);
                }
            }
        }
    }

    private static void tryOne(YoungerBack x, int state, int call, int a, int b, int d) {
        boolean threw = false;
        try {
            answer(x, call, a, b, d);
        } catch (Throwable t) {
            threw = true;
        }
        c.holds("state " + state + ", call " + call + " of " + a + ", " + b + ", " + d + " throws nothing", !threw);
    }

    private static int answer(YoungerBack x, int call, int a, int b, int d) {
        switch (call) {
            case 0: return x.row(a, b, d);
            case 1: return x.set(a, b, d);
            case 2: return x.copy(a, b, 0, d, d);
            case 3: return x.copy(0, b, a, 0, d);
            case 4: return x.sails(1, a, b, d);
            case 5: return x.sails(a, 0, b, d);
            case 6: return x.drop(a);
            case 7: return x.feed(((long) a << 32) ^ b, d);
            case 8: return x.league();
            case 9: return x.fault();
            case 10: return x.sail(a, b);
            case 11: return x.stay(a, b);
            case 12: return x.meet(a, b);
            case 13: return x.borrow(a, b);
            case 14: return x.undo();
            case 15: return x.person(a, b);
            case 16: return x.gains(a, b, d, 2);
            case 17: return x.gains(a, 0, b, d);
            case 18: return x.soonest(a, b, d);
            case 19: return x.voyages(a, b);
            case 20: return x.even(a, b, d);
            case 21: return x.where(a, b, d);
            case 22: return x.gone(a);
            case 23: return x.eldest(a);
            case 24: return x.image(a);
            case 25: return x.restore(a);
            case 26: return x.kind(a);
            case 27: return x.as(a, b);
            case 28: return x.ask(a, b);
            default: return x.trace(a) + x.count(b) + x.status();
        }
    }
}
