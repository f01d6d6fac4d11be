import java.util.ArrayList;
import java.util.List;

/**
 * All that can be told of an object by its calls, but status(). The object is used up by this: two objects of
 * which the same is told are in one state. With 24 ACTS of two people it takes some 380 calls of the 512.
 */
final class Told {
    /** Way k of it takes k + 1 years: how much later one is tells which way an item was. */
    private static final String EIGHT_WAYS = "law 2 0;way 0 1 1 0;way 0 1 2 0;way 0 1 3 0;way 0 1 4 0;way 0 1 5 0;"
        + "way 0 1 6 0;way 0 1 7 0;way 0 1 8 0;person captain 0 0;";
    private static final int PEOPLE = 4, WAYS = 3, MOST_ACTS = 25;

    private final YoungerBack x;
    private final List<Integer> told = new ArrayList<>();

    private Told(YoungerBack x) {
        this.x = x;
    }

    static List<Integer> of(YoungerBack x) {
        Told t = new Told(x);
        t.counts();
        t.trace();
        t.people();
        t.actsUndone();
        t.ways();
        t.images();
        t.tape();
        t.items();
        t.lanes();
        return t.told;
    }

    private void add(int answer) {
        told.add(answer);
    }

    private void counts() {
        for (int what = 0; what <= 6; what++) {
            add(x.count(what));
        }
        add(x.fault());
        add(x.eldest(0));
        add(x.eldest(1));
    }

    private void trace() {
        for (int i = 0; i < 16; i++) {
            add(x.trace(i));
        }
    }

    private void people() {
        for (int p = 0; p < Math.max(1, x.count(1)); p++) {
            add(x.kind(p));
            for (int what = 0; what <= 5; what++) {
                add(x.person(p, what));
            }
        }
    }

    private void actsUndone() {
        int left = 0;
        int people = x.count(1);
        for (int k = 0; k < MOST_ACTS && left >= 0; k++) {
            left = x.undo();
            add(left);
            for (int p = 0; p < people && left >= 0; p++) {
                add(x.person(p, 0));
                add(x.person(p, 1));
                add(x.person(p, 2));
                add(x.person(p, 4));
            }
        }
    }

    private void ways() {
        for (int p = 0; p < PEOPLE; p++) {
            for (int way = 0; way < WAYS; way++) {
                int at = x.sail(p, way);
                add(at);
                if (at >= 0) {
                    add(x.person(p, 1));
                    add(x.person(p, 2));
                    add(x.undo());
                }
            }
        }
    }

    private void images() {
        for (int k = 0; k < 2; k++) {
            add(x.restore(k));
            people();
        }
    }

    private void tape() {
        add(x.league());
        add(x.fault());
    }

    private void items() {
        add(Checks.read(x, EIGHT_WAYS));
        for (int row = 0; row < 8; row++) {
            int sailed = 0;
            for (int i = 0; i <= 40 && sailed != Checks.NULL && sailed != Checks.PLACE; i++) {
                sailed = x.sails(0, row, i, 1);
                add(sailed);
                if (sailed == 1) {
                    add(x.person(0, 1));
                }
            }
        }
    }

    private void lanes() {
        for (int lane = 0; lane <= 2; lane++) {
            x.row(7, lane, 0);
            for (int row = 0; row < 7; row++) {
                add(x.copy(row, 0, 7, 0, 0));
            }
        }
    }
}
