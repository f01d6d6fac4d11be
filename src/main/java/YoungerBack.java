/** Harbours, ways and people that come back younger than those who stayed. */
public final class YoungerBack {
    public static final int NONE = -1000000, BAD = -1000001, STATE = -1000002, FULL = -1000003;

    private static final int NULL = 1, PLACE = 2, KIND = 3, SIZE = 4, STORE = 5;
    private static final int BEFORE_FINDINGS = -1000010, BEFORE_FAULTS = -1000100;

    private static final int MOST_WAYS = 8, MOST_PEOPLE = 4, MOST_HARBOURS = 5;
    private static final int MOST_ACTS = 24, MOST_BYTES = 400, MOST_BODIES = 16;
    private static final int LAST_CLOCK = 200, LAST_AGE = 399, FORETOLD_YEARS = 40, MOST_OWED = 99999999;
    private static final int ROWS = 8, ITEMS = 40, IMAGES = 2, MISSING = -1;

    private static final int PERSON = 0, CAPTAIN = 1, PILOT = 2, MONK = 3, CLERK = 4, BOY = 5;

    private final int[][] items = new int[ROWS][ITEMS];
    private final int[] lanes = new int[ROWS];
    private final int[] sizes = new int[ROWS];
    private int finding = 0;

    private final Tape tape = new Tape();
    private int latestFault = 0;

    private boolean isRead = false;
    private final League current = new League();
    private final League draft = new League();
    private final League[] images = new League[IMAGES];
    private final boolean[] isKept = new boolean[IMAGES];

    private final Acts acts = new Acts();
    private final Foretold first = new Foretold();
    private final Foretold second = new Foretold();
    private final Asking asking = new Asking();

    public YoungerBack() {
        for (int row = 0; row < ROWS; row++) {
            sizes[row] = MISSING;
        }
        for (int k = 0; k < IMAGES; k++) {
            images[k] = new League();
        }
    }

    // ---- rows

    public int row(int row, int lane, int n) {
        if (isNoRow(row) || isOutside(lane, 0, 2) || n > ITEMS) {
            return BAD;
        }
        if (n < 0) {
            return found(SIZE);
        }
        for (int i = 0; i < ITEMS; i++) {
            items[row][i] = 0;
        }
        lanes[row] = lane;
        sizes[row] = n;
        return foundNothing(n);
    }

    public int set(int row, int i, int v) {
        if (isNoRow(row)) {
            return BAD;
        }
        if (isMissing(row)) {
            return found(NULL);
        }
        if (isBeyond(row, i, 1)) {
            return found(PLACE);
        }
        items[row][i] = lowestBits(lanes[row], v);
        return foundNothing(items[row][i]);
    }

    public int copy(int a, int i, int b, int j, int n) {
        if (isNoRow(a) || isNoRow(b)) {
            return BAD;
        }
        if (isMissing(a) || isMissing(b)) {
            return found(NULL);
        }
        if (lanes[a] != lanes[b]) {
            return found(STORE);
        }
        if (isBeyond(a, i, n) || isBeyond(b, j, n)) {
            return found(PLACE);
        }
        System.arraycopy(items[a], i, items[b], j, n);
        return foundNothing(n);
    }

    public int drop(int row) {
        if (isNoRow(row)) {
            return BAD;
        }
        if (isMissing(row)) {
            return found(NULL);
        }
        int size = sizes[row];
        sizes[row] = MISSING;
        return foundNothing(size);
    }

    // ---- leagues, voyages

    public int feed(long w, int n) {
        if (isOutside(n, 1, 8)) {
            return BAD;
        }
        if (tape.many + n > MOST_BYTES) {
            return FULL;
        }
        tape.append(w, n);
        return tape.many;
    }

    public int league() {
        tape.readLeague(draft);
        tape.many = 0;
        if (tape.fault != 0) {
            latestFault = tape.fault;
            return BEFORE_FAULTS - tape.faultPlace;
        }
        current.standsAs(draft);
        isRead = true;
        acts.forget();
        return current.peopleCount;
    }

    public int fault() {
        return latestFault;
    }

    public int sail(int person, int way) {
        if (isNobody(person) || isNoWay(way)) {
            return BAD;
        }
        int refusal = sailOnce(person, way);
        return refusal != 0 ? refusal : current.people[person].at;
    }

    public int sails(int person, int row, int i, int n) {
        if (isNoRow(row) || isOutside(n, 1, 24) || isNobody(person)) {
            return BAD;
        }
        if (isMissing(row)) {
            return found(NULL);
        }
        if (isBeyond(row, i, n)) {
            return found(PLACE);
        }
        for (int k = i; k < i + n; k++) {
            if (isNoWay(items[row][k])) {
                return BAD;
            }
        }
        int sailed = 0;
        while (sailed < n && sailOnce(person, items[row][i + sailed]) == 0) {
            sailed++;
        }
        return foundNothing(sailed);
    }

    public int stay(int person, int n) {
        if (isNobody(person) || isOutside(n, 1, 99)) {
            return BAD;
        }
        Person one = current.people[person];
        if (one.clock + n > LAST_CLOCK) {
            return FULL;
        }
        acts.keep(current);
        one.stayFor(n);
        return one.age;
    }

    public int meet(int a, int b) {
        if (isNobody(a) || isNobody(b) || a == b) {
            return BAD;
        }
        Person one = current.people[a];
        Person other = current.people[b];
        if (one.at != other.at) {
            return STATE;
        }
        acts.keep(current);
        int clock = Math.max(one.clock, other.clock);
        one.stayFor(clock - one.clock);
        other.stayFor(clock - other.clock);
        return one.age - other.age;
    }

    public int borrow(int person, int sum) {
        if (isNobody(person) || isOutside(sum, 1, 9999)) {
            return BAD;
        }
        Person one = current.people[person];
        int owed = one.owedByShore(current.rate);
        acts.keep(current);
        one.takeLoan(sum);
        return owed;
    }

    public int undo() {
        if (acts.many == 0) {
            return STATE;
        }
        acts.takeBack(current);
        return acts.many;
    }

    public int person(int person, int what) {
        if (isNobody(person)) {
            return BAD;
        }
        Person one = current.people[person];
        switch (what) {
            case 0:
                return one.at;
            case 1:
                return one.clock;
            case 2:
                return one.age;
            case 3:
                return one.lag();
            case 4:
                return one.owedByShore(current.rate);
            case 5:
                return one.owedByOwn(current.rate);
            default:
                return BAD;
        }
    }

    // ---- foretold

    public int gains(int person, int harbour, int n, int what) {
        if (isNobody(person) || isNoHarbour(harbour)) {
            return BAD;
        }
        if (isOutside(n, 0, FORETOLD_YEARS) || isOutside(what, 0, 2)) {
            return BAD;
        }
        first.foresee(current, current.people[person]);
        long gains = first.gainsAt(n, harbour);
        if (what == 0) {
            return Long.bitCount(gains);
        }
        if (gains == 0L) {
            return NONE;
        }
        return what == 1 ? Long.numberOfTrailingZeros(gains) : 63 - Long.numberOfLeadingZeros(gains);
    }

    public int soonest(int person, int harbour, int l) {
        if (isNobody(person) || isNoHarbour(harbour) || isOutside(l, 0, FORETOLD_YEARS)) {
            return BAD;
        }
        first.foresee(current, current.people[person]);
        for (int year = 0; year <= FORETOLD_YEARS; year++) {
            if (first.hasGain(year, harbour, l)) {
                return year;
            }
        }
        return NONE;
    }

    public int voyages(int person, int harbour) {
        if (isNobody(person) || isNoHarbour(harbour)) {
            return BAD;
        }
        Person one = current.people[person];
        int reached = 1 << one.at;
        for (int sailed = 0; sailed < MOST_HARBOURS; sailed++) {
            if (((reached >> harbour) & 1) == 1) {
                return sailed;
            }
            reached = current.oneVoyageMore(one, reached);
        }
        return NONE;
    }

    public int even(int a, int b, int harbour) {
        if (isNobody(a) || isNobody(b) || a == b || isNoHarbour(harbour)) {
            return BAD;
        }
        Person one = current.people[a];
        Person other = current.people[b];
        first.foresee(current, one);
        second.foresee(current, other);
        int older = (one.age - one.clock) - (other.age - other.clock);
        int last = Math.min(one.clock, other.clock) + FORETOLD_YEARS;
        for (int clock = Math.max(one.clock, other.clock); clock <= last; clock++) {
            long gains = first.gainsAt(clock - one.clock, harbour);
            long otherGains = second.gainsAt(clock - other.clock, harbour);
            if (haveGainsApart(gains, otherGains, older)) {
                return clock;
            }
        }
        return NONE;
    }

    public int where(int person, int clock, int age) {
        if (isNobody(person) || isOutside(clock, 0, LAST_CLOCK) || isOutside(age, 0, LAST_AGE)) {
            return BAD;
        }
        Person one = current.people[person];
        int years = clock - one.clock;
        int gain = one.age + years - age;
        first.foresee(current, one);
        int harbours = 0;
        for (int harbour = 0; harbour < current.harbours; harbour++) {
            if (first.hasGain(years, harbour, gain)) {
                harbours |= 1 << harbour;
            }
        }
        return harbours;
    }

    public int gone(int person) {
        if (isNobody(person)) {
            return BAD;
        }
        Person one = current.people[person];
        return one.owedByShore(current.rate) - one.owedByOwn(current.rate);
    }

    public int eldest(int what) {
        if (!isRead) {
            return STATE;
        }
        if (isOutside(what, 0, 1)) {
            return BAD;
        }
        int eldest = NONE;
        int greatest = -1;
        for (int p = 0; p < current.peopleCount; p++) {
            int age = what == 0 ? current.people[p].age : current.people[p].ageAsTold;
            if (age > greatest) {
                greatest = age;
                eldest = p;
            }
        }
        return eldest;
    }

    public int image(int k) {
        if (isOutside(k, 0, IMAGES - 1)) {
            return BAD;
        }
        if (!isRead) {
            return STATE;
        }
        images[k].standsAs(current);
        isKept[k] = true;
        return 1;
    }

    public int restore(int k) {
        if (isOutside(k, 0, IMAGES - 1)) {
            return BAD;
        }
        if (!isKept[k]) {
            return STATE;
        }
        current.standsAs(images[k]);
        acts.forget();
        return 1;
    }

    // ---- asked

    public int kind(int person) {
        return isNobody(person) ? BAD : current.people[person].sort;
    }

    public int as(int person, int kind) {
        if (isNobody(person) || isOutside(kind, PERSON, BOY)) {
            return BAD;
        }
        if (!isOfKind(current.people[person].sort, kind)) {
            return found(KIND);
        }
        return foundNothing(person);
    }

    public int ask(int person, int what) {
        if (isNobody(person) || isOutside(what, 0, 1)) {
            return BAD;
        }
        asking.begun = 0;
        Person one = current.people[person];
        return what == 0 ? asking.size(one, person) : asking.mark(one, person);
    }

    public int trace(int i) {
        return isOutside(i, 0, asking.begun - 1) ? NONE : asking.bodies[i];
    }

    public int count(int what) {
        switch (what) {
            case 0:
                return rowsThere();
            case 1:
                return current.peopleCount;
            case 2:
                return current.wayCount;
            case 3:
                return current.harbours;
            case 4:
                return acts.many;
            case 5:
                return current.rate;
            case 6:
                return tape.many;
            default:
                return BAD;
        }
    }

    public int status() {
        return finding;
    }

    // ---- what the calls share

    private int found(int number) {
        finding = number;
        return BEFORE_FINDINGS - number;
    }

    private int foundNothing(int answer) {
        finding = 0;
        return answer;
    }

    private static boolean isOutside(int v, int least, int most) {
        return v < least || v > most;
    }

    private static boolean isNoRow(int row) {
        return isOutside(row, 0, ROWS - 1);
    }

    private boolean isMissing(int row) {
        return sizes[row] == MISSING;
    }

    /** Whether n ITEMS from i on do not lie in a ROW that is there. */
    private boolean isBeyond(int row, int i, int n) {
        // i + n may be more than an int holds
        return i < 0 || n < 0 || (long) i + n > sizes[row];
    }

    private static int lowestBits(int lane, int v) {
        if (lane == 0) {
            return (byte) v;
        }
        return lane == 1 ? (short) v : v;
    }

    private int rowsThere() {
        int there = 0;
        for (int row = 0; row < ROWS; row++) {
            if (!isMissing(row)) {
                there++;
            }
        }
        return there;
    }

    // without a LEAGUE there are no PEOPLE, WAYS, HARBOURS: all of these are BAD then
    private boolean isNobody(int person) {
        return isOutside(person, 0, current.peopleCount - 1);
    }

    private boolean isNoWay(int way) {
        return isOutside(way, 0, current.wayCount - 1);
    }

    private boolean isNoHarbour(int harbour) {
        return isOutside(harbour, 0, current.harbours - 1);
    }

    /** One SAILS a WAY, an ACT: 0, or why he can't. */
    private int sailOnce(int person, int way) {
        Person one = current.people[person];
        Way taken = current.ways[way];
        if (!taken.endsIn(one.at) || !one.maySail(taken)) {
            return STATE;
        }
        if (one.clock + taken.shore > LAST_CLOCK) {
            return FULL;
        }
        acts.keep(current);
        one.sailOn(taken);
        return 0;
    }

    /** Whether one of the gains is by just so much more than one of the other gains. */
    private static boolean haveGainsApart(long gains, long otherGains, int apart) {
        if (isOutside(apart, -FORETOLD_YEARS, FORETOLD_YEARS)) {
            return false;
        }
        long met = apart >= 0 ? (gains >>> apart) & otherGains : (otherGains >>> -apart) & gains;
        return met != 0L;
    }

    private static boolean isOfKind(int sort, int kind) {
        return kind == PERSON || kind == sort || kind == nearestKind(sort);
    }

    private static int nearestKind(int sort) {
        switch (sort) {
            case PILOT:
            case MONK:
                return CAPTAIN;
            case BOY:
                return CLERK;
            default:
                return PERSON;
        }
    }

    /** A way between two harbours, for both directions. */
    private static final class Way {
        int a = 0;
        int b = 0;
        int shore = 0;
        int own = 0;

        void becomes(Way other) {
            a = other.a;
            b = other.b;
            shore = other.shore;
            own = other.own;
        }

        boolean endsIn(int harbour) {
            return a == harbour || b == harbour;
        }

        int otherEnd(int harbour) {
            return harbour == a ? b : a;
        }
    }

    /** One of the PEOPLE: where and how old he is, and what he BORROWED. */
    private static final class Person {
        int sort = PERSON;
        int ageAsTold = 0;
        int at = 0;
        int clock = 0;
        int age = 0;
        int loan = 0;
        int loanClock = 0;
        int loanAge = 0;

        void beginsAs(int newSort, int harbour, int newAge) {
            sort = newSort;
            ageAsTold = newAge;
            at = harbour;
            clock = 0;
            age = newAge;
            loan = 0;
            loanClock = 0;
            loanAge = 0;
        }

        void becomes(Person other) {
            sort = other.sort;
            ageAsTold = other.ageAsTold;
            at = other.at;
            clock = other.clock;
            age = other.age;
            loan = other.loan;
            loanClock = other.loanClock;
            loanAge = other.loanAge;
        }

        int lag() {
            return clock + ageAsTold - age;
        }

        boolean maySail(Way way) {
            return sort != BOY || way.shore <= 10;
        }

        int ownYears(Way way) {
            switch (sort) {
                case PILOT:
                    return Math.max(way.own - 1, 0);
                case MONK:
                    return 0;
                case CLERK:
                    return way.shore;
                default:
                    return way.own;
            }
        }

        void sailOn(Way way) {
            at = way.otherEnd(at);
            clock += way.shore;
            age += ownYears(way);
        }

        void stayFor(int years) {
            clock += years;
            age += years;
        }

        void takeLoan(int sum) {
            loan = sum;
            loanClock = clock;
            loanAge = age;
        }

        int owedByShore(int rate) {
            return grown(loan, rate, clock - loanClock);
        }

        int owedByOwn(int rate) {
            return grown(loan, rate, age - loanAge);
        }

        private static int grown(int sum, int rate, int years) {
            long owed = sum;
            for (int year = 0; year < years; year++) {
                owed = Math.min(owed + owed * rate / 100, MOST_OWED);
            }
            return (int) owed;
        }
    }

    /** HARBOURS, WAYS and PEOPLE as they are now; none of them before one is read. */
    private static final class League {
        int harbours = 0;
        int rate = 0;
        int wayCount = 0;
        int peopleCount = 0;
        final Way[] ways = new Way[MOST_WAYS];
        final Person[] people = new Person[MOST_PEOPLE];

        League() {
            for (int w = 0; w < MOST_WAYS; w++) {
                ways[w] = new Way();
            }
            for (int p = 0; p < MOST_PEOPLE; p++) {
                people[p] = new Person();
            }
        }

        void standsAs(League other) {
            harbours = other.harbours;
            rate = other.rate;
            wayCount = other.wayCount;
            peopleCount = other.peopleCount;
            for (int w = 0; w < MOST_WAYS; w++) {
                ways[w].becomes(other.ways[w]);
            }
            for (int p = 0; p < MOST_PEOPLE; p++) {
                people[p].becomes(other.people[p]);
            }
        }

        /** The harbours of a set, and those that one can SAIL to from them. */
        int oneVoyageMore(Person one, int reached) {
            int more = reached;
            for (int w = 0; w < wayCount; w++) {
                Way way = ways[w];
                int ends = (1 << way.a) | (1 << way.b);
                if (one.maySail(way) && (reached & ends) != 0) {
                    more |= ends;
                }
            }
            return more;
        }
    }

    /** How all PEOPLE were ahead of each ACT that can be undone, in a ring. */
    private static final class Acts {
        private final Person[] kept = new Person[MOST_ACTS * MOST_PEOPLE];
        private int oldest = 0;
        int many = 0;

        Acts() {
            for (int k = 0; k < MOST_ACTS * MOST_PEOPLE; k++) {
                kept[k] = new Person();
            }
        }

        void forget() {
            oldest = 0;
            many = 0;
        }

        void keep(League league) {
            if (many == MOST_ACTS) {
                oldest = (oldest + 1) % MOST_ACTS;
                many--;
            }
            int from = placeBehindLatest();
            for (int p = 0; p < MOST_PEOPLE; p++) {
                kept[from + p].becomes(league.people[p]);
            }
            many++;
        }

        void takeBack(League league) {
            if (many == 0) {
                return;
            }
            many--;
            int from = placeBehindLatest();
            for (int p = 0; p < MOST_PEOPLE; p++) {
                league.people[p].becomes(kept[from + p]);
            }
        }

        private int placeBehindLatest() {
            return (oldest + many) % MOST_ACTS * MOST_PEOPLE;
        }
    }

    /** What one can gain in LAG, by years from now on and harbours. */
    private static final class Foretold {
        /** A set of gains for each year and harbour: none is more than the years, so 41 bits hold it. */
        private final long[] gains = new long[(FORETOLD_YEARS + 1) * MOST_HARBOURS];

        long gainsAt(int years, int harbour) {
            if (isOutside(years, 0, FORETOLD_YEARS) || isOutside(harbour, 0, MOST_HARBOURS - 1)) {
                return 0L;
            }
            return gains[years * MOST_HARBOURS + harbour];
        }

        boolean hasGain(int years, int harbour, int gain) {
            return !isOutside(gain, 0, FORETOLD_YEARS) && ((gainsAt(years, harbour) >>> gain) & 1L) == 1L;
        }

        void foresee(League league, Person one) {
            for (int harbour = 0; harbour < MOST_HARBOURS; harbour++) {
                gains[harbour] = harbour == one.at ? 1L : 0L;
            }
            for (int year = 1; year <= FORETOLD_YEARS; year++) {
                for (int harbour = 0; harbour < MOST_HARBOURS; harbour++) {
                    gains[year * MOST_HARBOURS + harbour] = gainsAt(year - 1, harbour);
                }
                for (int w = 0; w < league.wayCount; w++) {
                    if (one.maySail(league.ways[w])) {
                        arrive(one, league.ways[w], year);
                    }
                }
            }
        }

        private void arrive(Person one, Way way, int year) {
            int gain = way.shore - one.ownYears(way);
            gains[year * MOST_HARBOURS + way.a] |= gainsAt(year - way.shore, way.b) << gain;
            gains[year * MOST_HARBOURS + way.b] |= gainsAt(year - way.shore, way.a) << gain;
        }
    }

    /** THE TAPE, its TOKENS, and the LEAGUE or the FAULT that they tell. */
    private static final class Tape {
        private static final int END = 0, NAME = 1, NUMBER = 2, SIGN = 3, NO_TOKEN = 4;
        private static final int CANNOT_STAND = 1, NOT_AS_TOLD = 2, NO_ROOM = 3;

        private final int[] bytes = new int[MOST_BYTES];
        int many = 0;

        private int token = END;
        private int start = 0;
        private int behind = 0;
        private int value = 0;

        int fault = 0;
        int faultPlace = 0;

        void append(long w, int n) {
            for (int k = n - 1; k >= 0 && many < MOST_BYTES; k--) {
                bytes[many] = (int) ((w >>> (8 * k)) & 255L);
                many++;
            }
        }

        /** Fills a league by what the tape tells; with a fault it holds no more than a part. */
        void readLeague(League league) {
            fault = 0;
            faultPlace = 0;
            behind = 0;
            league.wayCount = 0;
            league.peopleCount = 0;
            nextToken();
            takeWord("law");
            league.harbours = takeNumber(1, MOST_HARBOURS, NONE);
            league.rate = takeNumber(0, 20, NONE);
            takeSign();
            // one round more than there is room for, which finds the fault
            for (int w = 0; w <= MOST_WAYS && fault == 0 && isWord("way"); w++) {
                readWay(league);
            }
            for (int p = 0; p <= MOST_PEOPLE && fault == 0 && isWord("person"); p++) {
                readPerson(league);
            }
            if (token != END) {
                fail(CANNOT_STAND);
            }
        }

        private void readWay(League league) {
            if (league.wayCount >= MOST_WAYS) {
                fail(NO_ROOM);
                return;
            }
            Way way = league.ways[league.wayCount];
            takeWord("way");
            way.a = takeNumber(0, league.harbours - 1, NONE);
            way.b = takeNumber(0, league.harbours - 1, way.a);
            way.shore = takeNumber(1, 20, NONE);
            way.own = takeNumber(0, way.shore, NONE);
            takeSign();
            league.wayCount++;
        }

        private void readPerson(League league) {
            if (league.peopleCount >= MOST_PEOPLE) {
                fail(NO_ROOM);
                return;
            }
            takeWord("person");
            int sort = takeSort();
            int harbour = takeNumber(0, league.harbours - 1, NONE);
            int age = takeNumber(0, 99, NONE);
            takeSign();
            league.people[league.peopleCount].beginsAs(sort, harbour, age);
            league.peopleCount++;
        }

        // behind the first fault nothing is taken any more, and no other fault told

        private void fail(int number) {
            if (fault == 0) {
                fault = number;
                faultPlace = start;
            }
        }

        private void takeWord(String word) {
            if (fault == 0 && isWord(word)) {
                nextToken();
            } else {
                fail(CANNOT_STAND);
            }
        }

        private int takeSort() {
            for (int sort = CAPTAIN; sort <= BOY; sort++) {
                if (fault == 0 && isWord(sortWord(sort))) {
                    nextToken();
                    return sort;
                }
            }
            fail(CANNOT_STAND);
            return CAPTAIN;
        }

        private void takeSign() {
            if (fault == 0 && token == SIGN) {
                nextToken();
            } else {
                fail(CANNOT_STAND);
            }
        }

        private int takeNumber(int least, int most, int unlike) {
            if (fault != 0 || token != NUMBER) {
                fail(CANNOT_STAND);
                return least;
            }
            if (isOutside(value, least, most) || value == unlike) {
                fail(NOT_AS_TOLD);
                return least;
            }
            int taken = value;
            nextToken();
            return taken;
        }

        private static String sortWord(int sort) {
            switch (sort) {
                case CAPTAIN:
                    return "captain";
                case PILOT:
                    return "pilot";
                case MONK:
                    return "monk";
                case CLERK:
                    return "clerk";
                default:
                    return "boy";
            }
        }

        private boolean isWord(String word) {
            if (token != NAME || behind - start != word.length()) {
                return false;
            }
            for (int k = 0; k < word.length(); k++) {
                if (bytes[start + k] != word.charAt(k)) {
                    return false;
                }
            }
            return true;
        }

        private void nextToken() {
            while (behind < many && (bytes[behind] == ' ' || bytes[behind] == '\n')) {
                behind++;
            }
            start = behind;
            if (behind >= many) {
                token = END;
            } else if (isBetween('a', 'z')) {
                passRun('a', 'z');
                token = NAME;
            } else if (isBetween('0', '9')) {
                passRun('0', '9');
                readNumber();
            } else {
                token = bytes[behind] == ';' ? SIGN : NO_TOKEN;
                behind++;
            }
        }

        private boolean isBetween(int least, int most) {
            return behind < many && bytes[behind] >= least && bytes[behind] <= most;
        }

        private void passRun(int least, int most) {
            while (behind < many && isBetween(least, most)) {
                behind++;
            }
        }

        private void readNumber() {
            token = behind - start <= 3 ? NUMBER : NO_TOKEN;
            value = 0;
            for (int k = start; token == NUMBER && k < behind; k++) {
                value = value * 10 + bytes[k] - '0';
            }
        }
    }

    /** The BODIES of SIZE and MARK, and THE TRACE of those that began. */
    private static final class Asking {
        final int[] bodies = new int[MOST_BODIES];
        int begun = 0;

        private void begin(int body) {
            if (begun < MOST_BODIES) {
                bodies[begun] = body;
                begun++;
            }
        }

        int size(Person one, int number) {
            switch (one.sort) {
                case PILOT:
                    begin(12);
                    return -sizeOfCaptain(one, number);
                case CLERK:
                    return sizeOfClerk(one);
                case BOY:
                    begin(14);
                    return 2 * sizeOfClerk(one);
                default:
                    return sizeOfCaptain(one, number);
            }
        }

        int mark(Person one, int number) {
            if (!isOfKind(one.sort, CLERK)) {
                return markAmongCaptains(one, number);
            }
            begin(23);
            int lent = lentMark(number);
            return lent - size(one, number);
        }

        /** MARK, asked of one who is a captain: never asks for SIZE, so that no ask goes round. */
        private int markAmongCaptains(Person one, int number) {
            switch (one.sort) {
                case PILOT:
                    begin(24);
                    return 2 * markOfCaptain(one, number);
                case MONK:
                    begin(22);
                    return markOfCaptain(one, number) - 1000;
                default:
                    return markOfCaptain(one, number);
            }
        }

        private int lentSize(Person one) {
            begin(10);
            return one.age;
        }

        private int sizeOfCaptain(Person one, int number) {
            begin(11);
            int lent = lentSize(one);
            return lent + markAmongCaptains(one, number);
        }

        private int sizeOfClerk(Person one) {
            begin(13);
            return lentSize(one) - 100;
        }

        private int lentMark(int number) {
            begin(20);
            return number;
        }

        private int markOfCaptain(Person one, int number) {
            begin(21);
            return lentMark(number) + one.at;
        }
    }
}
