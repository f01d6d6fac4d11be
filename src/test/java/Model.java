import java.nio.charset.StandardCharsets;
import java.util.ArrayDeque;
import java.util.ArrayList;
import java.util.Arrays;
import java.util.Deque;
import java.util.HashSet;
import java.util.List;
import java.util.Set;
import java.util.TreeSet;
import java.util.regex.Matcher;
import java.util.regex.Pattern;

/** A second telling of the document, slow and by other means, that the program's answers are held against. */
final class Model {
    private static final int NONE = -1000000, BAD = -1000001, STATE = -1000002, FULL = -1000003;
    private static final List<String> SORTS = List.of("", "captain", "pilot", "monk", "clerk", "boy");

    /** Never changed: each act makes another one. */
    private record One(int sort, int born, int at, int clock, int age, int sum, int sumClock, int sumAge) {
        One moved(int harbour, int years, int own) {
            return new One(sort, born, harbour, clock + years, age + own, sum, sumClock, sumAge);
        }

        One lent(int newSum) {
            return new One(sort, born, at, clock, age, newSum, clock, age);
        }
    }

    private record Way(int a, int b, int shore, int own) {
        int from(int harbour) {
            return harbour == a ? b : harbour == b ? a : -1;
        }
    }

    private record Town(int harbours, int rate, List<Way> ways, List<One> people) {
        Town with(int p, One one) {
            List<One> changed = new ArrayList<>(people);
            changed.set(p, one);
            return new Town(harbours, rate, ways, changed);
        }
    }

    private static final class Fault extends RuntimeException {
        private static final long serialVersionUID = 1L;
        final int place;
        final int number;

        Fault(int place, int number) {
            this.place = place;
            this.number = number;
        }
    }

    private record Token(String text, int place) {
    }

    private final List<List<Integer>> rows = new ArrayList<>();
    private final int[] lanes = new int[8];
    private final StringBuilder tape = new StringBuilder();
    private final Deque<Town> before = new ArrayDeque<>();
    private final Town[] images = new Town[2];
    private List<Integer> trace = new ArrayList<>();
    private Town town = null;
    private int fault = 0;
    private int status = 0;

    Model() {
        for (int k = 0; k < 8; k++) {
            rows.add(null);
        }
    }

    private int found(int n) {
        status = n;
        return -1000010 - n;
    }

    private int well(int answer) {
        status = 0;
        return answer;
    }

    private boolean nobody(int p) {
        return town == null || p < 0 || p >= town.people().size();
    }

    private boolean noHarbour(int h) {
        return town == null || h < 0 || h >= town.harbours();
    }

    private One one(int p) {
        return town.people().get(p);
    }

    private static boolean in(long v, long least, long most) {
        return least <= v && v <= most;
    }

    int row(int row, int lane, int n) {
        if (!in(row, 0, 7) || !in(lane, 0, 2) || n > 40) {
            return BAD;
        }
        if (n < 0) {
            return found(4);
        }
        rows.set(row, new ArrayList<>(java.util.Collections.nCopies(n, 0)));
        lanes[row] = lane;
        return well(n);
    }

    int set(int row, int i, int v) {
        if (!in(row, 0, 7)) {
            return BAD;
        }
        if (rows.get(row) == null) {
            return found(1);
        }
        if (!in(i, 0, rows.get(row).size() - 1)) {
            return found(2);
        }
        int shift = new int[] {24, 16, 0}[lanes[row]];
        rows.get(row).set(i, v << shift >> shift);
        return well(v << shift >> shift);
    }

    int copy(int a, int i, int b, int j, int n) {
        if (!in(a, 0, 7) || !in(b, 0, 7)) {
            return BAD;
        }
        if (rows.get(a) == null || rows.get(b) == null) {
            return found(1);
        }
        if (lanes[a] != lanes[b]) {
            return found(5);
        }
        if (i < 0 || j < 0 || n < 0 || (long) i + n > rows.get(a).size() || (long) j + n > rows.get(b).size()) {
            return found(2);
        }
        List<Integer> ahead = new ArrayList<>(rows.get(a).subList(i, i + n));
        for (int k = 0; k < n; k++) {
            rows.get(b).set(j + k, ahead.get(k));
        }
        return well(n);
    }

    int drop(int row) {
        if (!in(row, 0, 7)) {
            return BAD;
        }
        if (rows.get(row) == null) {
            return found(1);
        }
        return well(rows.set(row, null).size());
    }

    int feed(long w, int n) {
        if (!in(n, 1, 8)) {
            return BAD;
        }
        if (tape.length() + n > 400) {
            return FULL;
        }
        byte[] all = java.nio.ByteBuffer.allocate(8).putLong(w).array();
        tape.append(new String(all, 8 - n, n, StandardCharsets.ISO_8859_1));
        return tape.length();
    }

    int league() {
        String text = tape.toString();
        tape.setLength(0);
        try {
            town = parsed(text);
            before.clear();
            return town.people().size();
        } catch (Fault f) {
            fault = f.number;
            return -1000100 - f.place;
        }
    }

    private static Town parsed(String text) {
        List<Token> tokens = new ArrayList<>();
        Matcher m = Pattern.compile("[a-z]+|[0-9]+|[^ \n]").matcher(text);
        while (m.find()) {
            tokens.add(new Token(m.group(), m.start()));
        }
        tokens.add(new Token("", text.length()));
        int[] next = {0};
        stands(tokens, next, "law");
        int harbours = number(tokens, next, 1, 5, -1);
        int rate = number(tokens, next, 0, 20, -1);
        stands(tokens, next, ";");
        List<Way> ways = new ArrayList<>();
        while (tokens.get(next[0]).text().equals("way")) {
            if (ways.size() == 8) {
                throw new Fault(tokens.get(next[0]).place(), 3);
            }
            next[0]++;
            int a = number(tokens, next, 0, harbours - 1, -1);
            int b = number(tokens, next, 0, harbours - 1, a);
            int shore = number(tokens, next, 1, 20, -1);
            ways.add(new Way(a, b, shore, number(tokens, next, 0, shore, -1)));
            stands(tokens, next, ";");
        }
        List<One> people = new ArrayList<>();
        while (tokens.get(next[0]).text().equals("person")) {
            if (people.size() == 4) {
                throw new Fault(tokens.get(next[0]).place(), 3);
            }
            next[0]++;
            Token word = tokens.get(next[0]);
            if (SORTS.indexOf(word.text()) < 1) {
                throw new Fault(word.place(), 1);
            }
            next[0]++;
            int at = number(tokens, next, 0, harbours - 1, -1);
            int age = number(tokens, next, 0, 99, -1);
            people.add(new One(SORTS.indexOf(word.text()), age, at, 0, age, 0, 0, 0));
            stands(tokens, next, ";");
        }
        stands(tokens, next, "");
        return new Town(harbours, rate, ways, people);
    }

    private static void stands(List<Token> tokens, int[] next, String text) {
        Token token = tokens.get(next[0]);
        if (!token.text().equals(text)) {
            throw new Fault(token.place(), 1);
        }
        next[0]++;
    }

    private static int number(List<Token> tokens, int[] next, int least, int most, int unlike) {
        Token token = tokens.get(next[0]);
        if (!token.text().matches("[0-9]{1,3}")) {
            throw new Fault(token.place(), 1);
        }
        int v = Integer.parseInt(token.text());
        if (v < least || v > most || v == unlike) {
            throw new Fault(token.place(), 2);
        }
        next[0]++;
        return v;
    }

    int fault() {
        return fault;
    }

    private void acted(Town after) {
        before.addLast(town);
        if (before.size() > 24) {
            before.removeFirst();
        }
        town = after;
    }

    private static boolean may(One one, Way way) {
        return one.sort() != 5 || way.shore() <= 10;
    }

    private static int own(One one, Way way) {
        return new int[] {0, way.own(), way.own() == 0 ? 0 : way.own() - 1, 0, way.shore(), way.own()}[one.sort()];
    }

    int sail(int p, int w) {
        if (nobody(p) || !in(w, 0, town.ways().size() - 1)) {
            return BAD;
        }
        One one = one(p);
        Way way = town.ways().get(w);
        if (way.from(one.at()) < 0 || !may(one, way)) {
            return STATE;
        }
        if (one.clock() + way.shore() > 200) {
            return FULL;
        }
        acted(town.with(p, one.moved(way.from(one.at()), way.shore(), own(one, way))));
        return one(p).at();
    }

    int sails(int p, int row, int i, int n) {
        if (!in(row, 0, 7) || !in(n, 1, 24) || nobody(p)) {
            return BAD;
        }
        if (rows.get(row) == null) {
            return found(1);
        }
        if (i < 0 || (long) i + n > rows.get(row).size()) {
            return found(2);
        }
        List<Integer> ways = new ArrayList<>(rows.get(row).subList(i, i + n));
        if (ways.stream().anyMatch(w -> !in(w, 0, town.ways().size() - 1))) {
            return BAD;
        }
        int sailed = 0;
        for (int w : ways) {
            if (sail(p, w) < 0) {
                break;
            }
            sailed++;
        }
        return well(sailed);
    }

    int stay(int p, int n) {
        if (nobody(p) || !in(n, 1, 99)) {
            return BAD;
        }
        One one = one(p);
        if (one.clock() + n > 200) {
            return FULL;
        }
        acted(town.with(p, one.moved(one.at(), n, n)));
        return one(p).age();
    }

    int meet(int a, int b) {
        if (nobody(a) || nobody(b) || a == b) {
            return BAD;
        }
        if (one(a).at() != one(b).at()) {
            return STATE;
        }
        int less = one(a).clock() < one(b).clock() ? a : b;
        int years = Math.abs(one(a).clock() - one(b).clock());
        acted(town.with(less, one(less).moved(one(less).at(), years, years)));
        return one(a).age() - one(b).age();
    }

    int borrow(int p, int sum) {
        if (nobody(p) || !in(sum, 1, 9999)) {
            return BAD;
        }
        int owed = person(p, 4);
        acted(town.with(p, one(p).lent(sum)));
        return owed;
    }

    int undo() {
        if (before.isEmpty()) {
            return STATE;
        }
        town = before.removeLast();
        return before.size();
    }

    private int owed(int sum, int years) {
        if (years == 0) {
            return sum;
        }
        long ahead = owed(sum, years - 1);
        return (int) Math.min(99999999L, ahead + ahead * town.rate() / 100);
    }

    int person(int p, int what) {
        if (nobody(p) || !in(what, 0, 5)) {
            return BAD;
        }
        One o = one(p);
        return new int[] {o.at(), o.clock(), o.age(), o.clock() + o.born() - o.age(),
            owed(o.sum(), o.clock() - o.sumClock()), owed(o.sum(), o.age() - o.sumAge())}[what];
    }

    /** All (years, harbour, own years) that one can come to within 40 years, a step after the other. */
    private Set<List<Integer>> reached(int p) {
        One one = one(p);
        Set<List<Integer>> seen = new HashSet<>();
        Deque<List<Integer>> open = new ArrayDeque<>();
        open.add(List.of(0, one.at(), 0));
        while (!open.isEmpty()) {
            List<Integer> here = open.pop();
            if (here.get(0) > 40 || !seen.add(here)) {
                continue;
            }
            open.push(List.of(here.get(0) + 1, here.get(1), here.get(2) + 1));
            for (Way way : town.ways()) {
                int to = way.from(here.get(1));
                if (to >= 0 && may(one, way)) {
                    open.push(List.of(here.get(0) + way.shore(), to, here.get(2) + own(one, way)));
                }
            }
        }
        return seen;
    }

    int gains(int p, int h, int n, int what) {
        if (nobody(p) || noHarbour(h) || !in(n, 0, 40) || !in(what, 0, 2)) {
            return BAD;
        }
        TreeSet<Integer> gains = new TreeSet<>();
        for (List<Integer> r : reached(p)) {
            if (r.get(0) == n && r.get(1) == h) {
                gains.add(n - r.get(2));
            }
        }
        if (what == 0) {
            return gains.size();
        }
        return gains.isEmpty() ? NONE : what == 1 ? gains.first() : gains.last();
    }

    int soonest(int p, int h, int l) {
        if (nobody(p) || noHarbour(h) || !in(l, 0, 40)) {
            return BAD;
        }
        return reached(p).stream().filter(r -> r.get(1) == h && r.get(0) - r.get(2) == l)
            .mapToInt(r -> r.get(0)).min().orElse(NONE);
    }

    int voyages(int p, int h) {
        if (nobody(p) || noHarbour(h)) {
            return BAD;
        }
        int[] fewest = new int[5];
        Arrays.fill(fewest, 99);
        fewest[one(p).at()] = 0;
        for (int round = 0; round < 9; round++) {
            for (Way way : town.ways()) {
                if (may(one(p), way)) {
                    fewest[way.a()] = Math.min(fewest[way.a()], fewest[way.b()] + 1);
                    fewest[way.b()] = Math.min(fewest[way.b()], fewest[way.a()] + 1);
                }
            }
        }
        return fewest[h] >= 99 ? NONE : fewest[h];
    }

    int even(int a, int b, int h) {
        if (nobody(a) || nobody(b) || a == b || noHarbour(h)) {
            return BAD;
        }
        Set<List<Integer>> met = agesAt(a, h);
        met.retainAll(agesAt(b, h));
        return met.stream().mapToInt(m -> m.get(0)).min().orElse(NONE);
    }

    /** (CLOCK, AGE) at a harbour. */
    private Set<List<Integer>> agesAt(int p, int h) {
        Set<List<Integer>> ages = new HashSet<>();
        for (List<Integer> r : reached(p)) {
            if (r.get(1) == h) {
                ages.add(List.of(one(p).clock() + r.get(0), one(p).age() + r.get(2)));
            }
        }
        return ages;
    }

    int where(int p, int clock, int age) {
        if (nobody(p) || !in(clock, 0, 200) || !in(age, 0, 399)) {
            return BAD;
        }
        int bits = 0;
        for (int h = 0; h < town.harbours(); h++) {
            bits |= agesAt(p, h).contains(List.of(clock, age)) ? 1 << h : 0;
        }
        return bits;
    }

    int gone(int p) {
        return nobody(p) ? BAD : person(p, 4) - person(p, 5);
    }

    int eldest(int what) {
        if (town == null) {
            return STATE;
        }
        if (!in(what, 0, 1)) {
            return BAD;
        }
        int best = NONE;
        for (int p = town.people().size() - 1; p >= 0; p--) {
            int age = what == 0 ? one(p).age() : one(p).born();
            if (best == NONE || age >= (what == 0 ? one(best).age() : one(best).born())) {
                best = p;
            }
        }
        return best;
    }

    int image(int k) {
        if (!in(k, 0, 1)) {
            return BAD;
        }
        if (town == null) {
            return STATE;
        }
        images[k] = town;
        return 1;
    }

    int restore(int k) {
        if (!in(k, 0, 1)) {
            return BAD;
        }
        if (images[k] == null) {
            return STATE;
        }
        town = images[k];
        before.clear();
        return 1;
    }

    int kind(int p) {
        return nobody(p) ? BAD : one(p).sort();
    }

    private static boolean is(int sort, int kind) {
        return sort == kind || sort != 0 && is(new int[] {0, 0, 1, 1, 0, 4}[sort], kind);
    }

    int as(int p, int kind) {
        if (nobody(p) || !in(kind, 0, 5)) {
            return BAD;
        }
        return is(one(p).sort(), kind) ? well(p) : found(3);
    }

    int ask(int p, int what) {
        if (nobody(p) || !in(what, 0, 1)) {
            return BAD;
        }
        trace = new ArrayList<>();
        return asked(p, what, one(p).sort());
    }

    /** The BODY of a KIND, or of the nearest one that has any. */
    private int asked(int p, int what, int kind) {
        int[][] bodies = {{10, 11, 12, 11, 13, 14}, {20, 21, 24, 22, 23, 23}};
        return body(p, bodies[what][kind]);
    }

    private int body(int p, int number) {
        trace.add(number);
        switch (number) {
            case 10: return one(p).age();
            case 11: return body(p, 10) + asked(p, 1, one(p).sort());
            case 12: return -body(p, 11);
            case 13: return body(p, 10) - 100;
            case 14: return 2 * body(p, 13);
            case 20: return p;
            case 21: return body(p, 20) + one(p).at();
            case 22: return body(p, 21) - 1000;
            case 23: return body(p, 20) - asked(p, 0, one(p).sort());
            default: return 2 * body(p, 21);
        }
    }

    int trace(int i) {
        return i >= 0 && i < Math.min(16, trace.size()) ? trace.get(i) : NONE;
    }

    int count(int what) {
        switch (what) {
            case 0: return (int) rows.stream().filter(r -> r != null).count();
            case 1: return town == null ? 0 : town.people().size();
            case 2: return town == null ? 0 : town.ways().size();
            case 3: return town == null ? 0 : town.harbours();
            case 4: return before.size();
            case 5: return town == null ? 0 : town.rate();
            case 6: return tape.length();
            default: return BAD;
        }
    }

    int status() {
        return status;
    }
}
