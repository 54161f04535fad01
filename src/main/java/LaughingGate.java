/**
 * People on a road who want in, whose laughing shuts the gate.
 *
 * What the calls promise is told in the document; the words used here are its words.
 */
public final class LaughingGate {

    public static final int NONE = -1, BAD = -2, STATE = -3, FULL = -4;
    public static final long NO = Long.MIN_VALUE;

    /** Stands for "there is none" where the number itself is what was looked for. */
    private static final int LACKING = -5;
    /** Stands for NONE where an answer may be below 0 itself. */
    private static final int NO_NUMBER = -10001;
    /** The answer for a FAULT at place 0; later ones lie below it. */
    private static final int FAULT_AT_START = -10;
    private static final int NOTHING = -11, CAST = -12, PLACE = -13, SIZE = -14;

    private static final int ONE = 0, TRADER = 1, BISHOP = 2, CHILD = 3, FRIEND = 4, WIDOW = 5, TOLD = 6;
    /** The KIND that each KIND is under. */
    private static final int[] ABOVE = {-1, ONE, ONE, ONE, TRADER, BISHOP, CHILD};

    private static final int MOST_PEOPLE = 6, MOST_CITIES = 6, MOST_TAPES = 6;
    private static final int MOST_SEEN = 5, MOST_PLANNED = 10, MOST_BOOKED = 8;
    private static final int MOST_BYTES = 100, MOST_CLAUSES = 10, MOST_NESTED = 4;
    private static final int MOST_ITEMS = 60, MOST_TRACED = 20;
    private static final int DIGIT = 9, ROW_PARTS = 4, LAUGHS_FROM = 10;
    private static final int MOST_DOWN = 99, MOST_COUNTED = 9999, HIGHEST_SIGN = 127;
    private static final int HOURS_ASKED = 60, HOURS_TURNED = 12, HOURS_SEEN = 12, HOURS_OF_ODDS = 20;
    private static final int NEAR_WITHOUT = 3, WIND_WITHOUT = 2;

    private static final int AN_HOUR = 0, SOBERED = 1, TICKLED = 2, WOUND_UP = 3;
    private static final int COUGHS = 0, WINKS = 1, TELLS = 2;
    private static final int NO_SORT = -1, BYTES = 0, SHORTS = 1, INTS = 2, LONGS = 3, BOOLEANS = 4;

    private final Scene now = new Scene();
    private final Scene image = new Scene();
    private boolean imageTaken;
    /** Where hours are tried that do not really go. */
    private final Town trial = new Town();
    private final Reader reader = new Reader();
    private final City[] cities = new City[MOST_CITIES];
    private int cityCount;
    private final Acts acts = new Acts();
    private final Tape[] tapes = new Tape[MOST_TAPES];

    public LaughingGate() {
        for (int i = 0; i < MOST_CITIES; i++) {
            cities[i] = new City();
        }
        for (int i = 0; i < MOST_TAPES; i++) {
            tapes[i] = new Tape();
        }
    }

    // ---- people, the road, cities

    public int one(int kind, int v, int mirth) {
        if (!within(kind, ONE, TOLD)) {
            return NONE;
        }
        if (!within(v, 0, DIGIT) || !within(mirth, 0, DIGIT)) {
            return BAD;
        }
        if (now.town.people >= MOST_PEOPLE) {
            return FULL;
        }
        return now.town.addPerson(kind, v, mirth);
    }

    public int of(int person, int what) {
        if (!isPerson(person)) {
            return NO_NUMBER;
        }
        Town town = now.town;
        switch (what) {
            case 0: return town.kinds[person];
            case 1: return town.vs[person];
            case 2: return town.mirths[person];
            case 3: return town.placeOf(person) < 0 ? 1 : 0;
            case 4: return placeOrLacking(person);
            case 5: return town.laughers() >> person & 1;
            case 6: return hoursTillIn(person);
            case 7: return fitting(trial.mirths, person);
            case 10:
            case 11:
            case 12: return urgeNow(person, what - 10);
            default: return NO_NUMBER;
        }
    }

    public int cheer(int person, int n) {
        if (!isPerson(person)) {
            return NONE;
        }
        if (!within(n, 0, DIGIT)) {
            return BAD;
        }
        int before = now.town.mirths[person];
        now.town.mirths[person] = n;
        return before;
    }

    public int swap(int one, int other) {
        if (!isPerson(one) || !isPerson(other)) {
            return NONE;
        }
        if (one == other) {
            return BAD;
        }
        return now.town.exchange(one, other) ? now.town.placeOf(one) : STATE;
    }

    public int again(int person) {
        if (!isPerson(person)) {
            return NONE;
        }
        if (now.town.placeOf(person) >= 0) {
            return STATE;
        }
        now.town.joinRoad(person);
        return now.town.placeOf(person);
    }

    public int down(int n) {
        if (!within(n, 0, MOST_DOWN)) {
            return BAD;
        }
        int before = now.town.down;
        now.town.down = n;
        return before;
    }

    public int row(int person, int part, int n) {
        if (!isPerson(person) || !within(part, 0, ROW_PARTS - 1)) {
            return NONE;
        }
        if (!within(n, 0, DIGIT)) {
            return BAD;
        }
        if (now.town.kinds[person] != TOLD) {
            return STATE;
        }
        int before = now.town.rows[person * ROW_PARTS + part];
        now.town.rows[person * ROW_PARTS + part] = n;
        return before;
    }

    public int feed(int sign) {
        if (!within(sign, 0, HIGHEST_SIGN)) {
            return BAD;
        }
        if (reader.length >= MOST_BYTES) {
            return FULL;
        }
        reader.text[reader.length] = (byte) sign;
        reader.length++;
        return reader.length;
    }

    public int city() {
        if (cityCount >= MOST_CITIES) {
            return FULL;
        }
        // A city that came to nothing is not counted, so the next text is written over it.
        City next = cities[cityCount];
        boolean isCity = reader.fills(next);
        reader.length = 0;
        if (!isCity) {
            return FAULT_AT_START - reader.at;
        }
        now.town.city = next;
        cityCount++;
        return cityCount - 1;
    }

    public int told(int what) {
        Town town = now.town;
        switch (what) {
            case 0: return town.hour;
            case 1: return town.near();
            case 2: return town.wind();
            case 3: return town.down;
            case 4: return town.falls;
            case 5: return town.laughers();
            case 6: return spark();
            case 7: return laughersBy(spark());
            case 8: return hush();
            case 9: return town.people - town.walkers;
            default: break;
        }
        // Tested so that what - 10 cannot wrap.
        return what >= 10 && what - 10 < town.walkers ? town.road[what - 10] : NONE;
    }

    // ---- hours

    public int pass(int n) {
        if (!within(n, 0, HOURS_ASKED)) {
            return BAD;
        }
        if (now.town.hour + n > MOST_COUNTED) {
            return STATE;
        }
        now.town.hoursGo(n);
        // Only hours that really go stop counting: those that are asked about count on.
        now.town.falls = Math.min(now.town.falls, MOST_COUNTED);
        return now.town.hour;
    }

    public int on(int n, int what) {
        boolean isMirth = what >= 10 && isPerson(what - 10);
        if (!within(what, 0, 2) && !isMirth) {
            return NONE;
        }
        if (!within(n, 0, HOURS_ASKED)) {
            return BAD;
        }
        trial.copyFrom(now.town);
        trial.hoursGo(n);
        switch (what) {
            case 0: return trial.down;
            case 1: return trial.falls;
            case 2: return trial.people - trial.walkers;
            default: return isMirth ? trial.mirths[what - 10] : NONE;
        }
    }

    public int turn(int n) {
        if (!within(n, 1, HOURS_TURNED)) {
            return BAD;
        }
        trial.copyFrom(now.town);
        trial.hoursGo(n);
        int fewestOut = trial.walkers;
        int best = LACKING;
        for (int lesser = 0; lesser < now.town.people; lesser++) {
            for (int greater = lesser + 1; greater < now.town.people; greater++) {
                int out = walkersAfterTurn(lesser, greater, n);
                if (out < fewestOut) {
                    fewestOut = out;
                    best = 10 * lesser + greater;
                }
            }
        }
        return best;
    }

    // ---- seen, odds

    public int see(int person, int n, boolean isIn) {
        if (person == -1) {
            return now.seen.empty();
        }
        if (!isPerson(person)) {
            return NONE;
        }
        if (!within(n, 0, HOURS_SEEN)) {
            return BAD;
        }
        return now.seen.append(person, n, isIn ? 1 : 0);
    }

    public int can(int person, int what) {
        if (!isPerson(person) || !within(what, 0, 1)) {
            return NONE;
        }
        int bits = fitting(trial.vs, person);
        if (what == 0) {
            return Integer.bitCount(bits);
        }
        for (int v = 0; v <= DIGIT; v++) {
            if ((bits >> v & 1) == 1) {
                return v;
            }
        }
        return LACKING;
    }

    public long odds(int n, int part) {
        if (!within(n, 1, HOURS_OF_ODDS) || !within(part, 0, 1)) {
            return NO;
        }
        int fallsNow = now.town.falls;
        int worse = 0;
        for (int place = 0; place < now.town.walkers; place++) {
            trial.copyFrom(now.town);
            trial.mirths[now.town.road[place]] = DIGIT;
            trial.hoursGo(n);
            if (trial.falls > fallsNow) {
                worse++;
            }
        }
        return fraction(worse, now.town.walkers, part);
    }

    public long mean(int part) {
        if (!within(part, 0, 1)) {
            return NO;
        }
        int together = 0;
        for (int place = 0; place < now.town.walkers; place++) {
            together += now.town.mirths[now.town.road[place]];
        }
        return fraction(together, now.town.walkers, part);
    }

    // ---- plans, books

    public int plan(int what, int person) {
        if (what == -1) {
            return now.plan.empty();
        }
        if (!within(what, AN_HOUR, WOUND_UP)) {
            return NONE;
        }
        boolean needsPerson = what == SOBERED || what == TICKLED;
        if (needsPerson && !isPerson(person)) {
            return NONE;
        }
        return now.plan.append(what, needsPerson ? person : 0, 0);
    }

    public int ends(int what) {
        if (!within(what, 0, 1)) {
            return NONE;
        }
        trial.copyFrom(now.town);
        for (int i = 0; i < now.plan.size; i++) {
            tryPlanned(now.plan.first[i], now.plan.second[i]);
        }
        return what == 0 ? trial.people - trial.walkers : trial.falls;
    }

    public int book(int person, int mirth) {
        if (person == -1) {
            return now.book.empty();
        }
        if (!isPerson(person)) {
            return NONE;
        }
        if (!within(mirth, 0, DIGIT)) {
            return BAD;
        }
        return now.book.append(person, mirth, 0);
    }

    public int looked() {
        for (int i = 0; i < now.book.size; i++) {
            if (now.town.mirths[now.book.first[i]] != now.book.second[i]) {
                return i;
            }
        }
        return LACKING;
    }

    // ---- judging, the image, acts, tapes

    public int judge(int tape, int i) {
        if (!within(tape, 0, MOST_TAPES - 1)) {
            return NONE;
        }
        Tape told = tapes[tape];
        if (told.sort != NO_SORT && told.sort != BYTES) {
            return CAST;
        }
        for (int place = 0; place < now.town.walkers; place++) {
            // Taken from the length, since i + place could wrap.
            if (i < 0 || i >= told.length - place) {
                return 100 + place;
            }
            if (told.items[i + place] != now.town.road[place]) {
                return place;
            }
        }
        return LACKING;
    }

    public int image() {
        image.copyFrom(now);
        imageTaken = true;
        return image.town.people;
    }

    public int undo() {
        if (!imageTaken) {
            return STATE;
        }
        now.copyFrom(image);
        return now.town.people;
    }

    public int act(int person, int act, int x) {
        acts.forget();
        if (!isPerson(person)) {
            return 0;
        }
        acts.isDoneBy(person, now.town.kinds[person], now.town.vs[person]);
        return acts.perform(act, x);
    }

    public int trace(int i) {
        return i >= 0 && i < acts.ran && i < MOST_TRACED ? acts.trace[i] : NONE;
    }

    public int taken(int person, int k) {
        if (!within(k, ONE, TOLD)) {
            return BAD;
        }
        if (!isPerson(person)) {
            return NOTHING;
        }
        int kind = now.town.kinds[person];
        int at = kind;
        for (int steps = 0; steps < ABOVE.length && within(at, ONE, TOLD); steps++) {
            if (at == k) {
                return kind;
            }
            at = ABOVE[at];
        }
        return CAST;
    }

    public int count(int what) {
        switch (what) {
            case 0: return now.town.people;
            case 1: return now.town.walkers;
            case 2: return cityCount;
            case 3: return now.seen.size;
            case 4: return now.plan.size;
            case 5: return now.book.size;
            case 6: return reader.length;
            case 7: return acts.ran;
            default: return BAD;
        }
    }

    public int tape(int tape, int sort, int n) {
        if (!within(tape, 0, MOST_TAPES - 1)) {
            return NONE;
        }
        if (sort == NO_SORT) {
            tapes[tape].becomes(NO_SORT, 0);
            return 1;
        }
        if (!within(sort, BYTES, BOOLEANS) || n > MOST_ITEMS) {
            return BAD;
        }
        if (n < 0) {
            return SIZE;
        }
        tapes[tape].becomes(sort, n);
        return 1;
    }

    public int item(int tape, int i, long v) {
        if (!within(tape, 0, MOST_TAPES - 1)) {
            return NONE;
        }
        Tape written = tapes[tape];
        if (written.sort == NO_SORT) {
            return NOTHING;
        }
        if (!within(i, 0, written.length - 1)) {
            return PLACE;
        }
        written.items[i] = written.cut(v);
        return 1;
    }

    public long read(int tape, int i) {
        if (!within(tape, 0, MOST_TAPES - 1) || !within(i, 0, tapes[tape].length - 1)) {
            return NO;
        }
        return tapes[tape].items[i];
    }

    public int shift(int tape, int i, int other, int j, int n) {
        if (!within(tape, 0, MOST_TAPES - 1) || !within(other, 0, MOST_TAPES - 1)) {
            return NONE;
        }
        Tape from = tapes[tape];
        Tape to = tapes[other];
        if (from.sort == NO_SORT || to.sort == NO_SORT) {
            return NOTHING;
        }
        if (from.sort != to.sort) {
            return CAST;
        }
        if (n < 0 || !within(i, 0, from.length - n) || !within(j, 0, to.length - n)) {
            return PLACE;
        }
        System.arraycopy(from.items, i, to.items, j, n);
        return n;
    }

    // ---- what the calls share

    private static boolean within(int n, int least, int most) {
        return n >= least && n <= most;
    }

    private boolean isPerson(int person) {
        return person >= 0 && person < now.town.people;
    }

    private int placeOrLacking(int person) {
        int place = now.town.placeOf(person);
        return place < 0 ? LACKING : place;
    }

    private int urgeNow(int person, int j) {
        int place = now.town.placeOf(person);
        return place < 0 ? NO_NUMBER : now.town.urge(person, now.town.sumAt(place), j);
    }

    private int hoursTillIn(int person) {
        trial.copyFrom(now.town);
        for (int hours = 0; hours <= HOURS_ASKED; hours++) {
            if (trial.placeOf(person) < 0) {
                return hours;
            }
            trial.hourGoes();
        }
        return LACKING;
    }

    /** By which numbers, as bits, SEEN is so, if theirs (a row of the trial's own) holds them for the person. */
    private int fitting(int[] theirs, int person) {
        int bits = 0;
        for (int n = 0; n <= DIGIT; n++) {
            trial.copyFrom(now.town);
            theirs[person] = n;
            if (seenComesTrue()) {
                bits |= 1 << n;
            }
        }
        return bits;
    }

    /** Runs the trial on, hour by hour, so that one run serves all rows of SEEN. */
    private boolean seenComesTrue() {
        int last = -1;
        for (int i = 0; i < now.seen.size; i++) {
            last = Math.max(last, now.seen.second[i]);
        }
        for (int hours = 0; hours <= last; hours++) {
            if (!seenIsSoIn(hours)) {
                return false;
            }
            if (hours < last) {
                trial.hourGoes();
            }
        }
        return true;
    }

    private boolean seenIsSoIn(int hours) {
        for (int i = 0; i < now.seen.size; i++) {
            boolean isIn = trial.placeOf(now.seen.first[i]) < 0;
            if (now.seen.second[i] == hours && isIn != (now.seen.third[i] == 1)) {
                return false;
            }
        }
        return true;
    }

    private int spark() {
        int best = LACKING;
        int most = -1;
        for (int person = 0; person < now.town.people; person++) {
            int laughers = now.town.placeOf(person) < 0 ? -1 : laughersBy(person);
            if (laughers > most) {
                most = laughers;
                best = person;
            }
        }
        return best;
    }

    private int laughersBy(int person) {
        if (!isPerson(person)) {
            return 0;
        }
        trial.copyFrom(now.town);
        trial.mirths[person] = DIGIT;
        return Integer.bitCount(trial.laughers());
    }

    private int hush() {
        int onRoad = 0;
        for (int place = 0; place < now.town.walkers; place++) {
            onRoad |= 1 << now.town.road[place];
        }
        int best = LACKING;
        int fewest = MOST_PEOPLE + 1;
        for (int set = 0; set <= onRoad; set++) {
            if ((set & ~onRoad) != 0 || Integer.bitCount(set) >= fewest) {
                continue;
            }
            trial.copyFrom(now.town);
            trial.sober(set);
            trial.hourGoes();
            if (trial.falls <= now.town.falls) {
                best = set;
                fewest = Integer.bitCount(set);
            }
        }
        return best;
    }

    private int walkersAfterTurn(int one, int other, int n) {
        trial.copyFrom(now.town);
        // Two who are not both on the road leave all walkers there: that is never better.
        if (trial.exchange(one, other)) {
            trial.hoursGo(n);
        }
        return trial.walkers;
    }

    private void tryPlanned(int what, int person) {
        switch (what) {
            case AN_HOUR: trial.hourGoes(); break;
            case SOBERED: trial.mirths[person] = 0; break;
            case TICKLED: trial.mirths[person] = DIGIT; break;
            default: trial.down = 0; break;
        }
    }

    private static long fraction(int above, int below, int part) {
        // What is below the line is a number of people, so few divisors need a look.
        for (int divisor = below; divisor > 0; divisor--) {
            if (above % divisor == 0 && below % divisor == 0) {
                return part == 0 ? above / divisor : below / divisor;
            }
        }
        return NO;
    }

    /** All that THE IMAGE keeps. */
    private static final class Scene {
        final Town town = new Town();
        final Rows seen = new Rows(MOST_SEEN);
        final Rows plan = new Rows(MOST_PLANNED);
        final Rows book = new Rows(MOST_BOOKED);

        void copyFrom(Scene other) {
            town.copyFrom(other.town);
            seen.copyFrom(other.seen);
            plan.copyFrom(other.plan);
            book.copyFrom(other.book);
        }
    }

    /** What was told by hand, row by row. */
    private static final class Rows {
        final int[] first;
        final int[] second;
        final int[] third;
        int size;

        Rows(int most) {
            int length = Math.max(most, 0);
            first = new int[length];
            second = new int[length];
            third = new int[length];
        }

        int append(int one, int two, int three) {
            if (size >= first.length) {
                return FULL;
            }
            first[size] = one;
            second[size] = two;
            third[size] = three;
            size++;
            return size;
        }

        int empty() {
            size = 0;
            return size;
        }

        void copyFrom(Rows other) {
            size = 0;
            for (int i = 0; i < other.size; i++) {
                append(other.first[i], other.second[i], other.third[i]);
            }
        }
    }

    /** The people, the road and the gate: all that an hour looks at or changes. */
    private static final class Town {
        int people;
        final int[] kinds = new int[MOST_PEOPLE];
        final int[] vs = new int[MOST_PEOPLE];
        final int[] mirths = new int[MOST_PEOPLE];
        final int[] rows = new int[MOST_PEOPLE * ROW_PARTS];
        /** Who is at each place; whoever is at none of the first places, as many as there are walkers, is in. */
        final int[] road = new int[MOST_PEOPLE];
        int walkers;
        int down;
        int falls;
        int hour;
        City city;
        private final int[] facts = new int[City.LETTER_COUNT];
        private final int[] sums = new int[MOST_PEOPLE];

        void copyFrom(Town other) {
            people = other.people;
            walkers = other.walkers;
            down = other.down;
            falls = other.falls;
            hour = other.hour;
            city = other.city;
            System.arraycopy(other.kinds, 0, kinds, 0, MOST_PEOPLE);
            System.arraycopy(other.vs, 0, vs, 0, MOST_PEOPLE);
            System.arraycopy(other.mirths, 0, mirths, 0, MOST_PEOPLE);
            System.arraycopy(other.rows, 0, rows, 0, MOST_PEOPLE * ROW_PARTS);
            System.arraycopy(other.road, 0, road, 0, MOST_PEOPLE);
        }

        int addPerson(int kind, int v, int mirth) {
            if (people >= MOST_PEOPLE) {
                return FULL;
            }
            int person = people;
            people++;
            kinds[person] = kind;
            vs[person] = v;
            mirths[person] = mirth;
            // So that nothing rests on who had the number before an undo.
            for (int part = 0; part < ROW_PARTS; part++) {
                rows[person * ROW_PARTS + part] = 0;
            }
            joinRoad(person);
            return person;
        }

        int near() {
            return city == null ? NEAR_WITHOUT : city.near;
        }

        int wind() {
            return city == null ? WIND_WITHOUT : city.wind;
        }

        /** Below 0: the person is in. */
        int placeOf(int person) {
            for (int place = 0; place < walkers; place++) {
                if (road[place] == person) {
                    return place;
                }
            }
            return -1;
        }

        void joinRoad(int person) {
            if (walkers < MOST_PEOPLE) {
                road[walkers] = person;
                walkers++;
            }
        }

        /** Whether both were on the road, so that they could. */
        boolean exchange(int one, int other) {
            int place = placeOf(one);
            int otherPlace = placeOf(other);
            if (place < 0 || otherPlace < 0) {
                return false;
            }
            road[place] = other;
            road[otherPlace] = one;
            return true;
        }

        void sober(int bits) {
            for (int person = 0; person < people; person++) {
                if ((bits >> person & 1) == 1) {
                    mirths[person] = 0;
                }
            }
        }

        void hoursGo(int n) {
            for (int i = 0; i < n; i++) {
                hourGoes();
            }
        }

        void hourGoes() {
            if (down == 0) {
                letFirstIn();
            }
            int laughing = laughingPlaces();
            int nearPlaces = (1 << Math.min(near(), MOST_PEOPLE)) - 1;
            if ((laughing & nearPlaces) != 0) {
                down = wind();
                falls++;
            } else if (down > 0) {
                down--;
            }
            for (int place = 0; place < walkers; place++) {
                int person = road[place];
                boolean laughs = (laughing >> place & 1) == 1;
                mirths[person] = laughs ? 0 : Math.min(mirths[person] + 1, DIGIT);
            }
            hour++;
        }

        private void letFirstIn() {
            if (walkers > 0) {
                walkers--;
                System.arraycopy(road, 1, road, 0, walkers);
            }
        }

        /** Who laughs as all is now, a bit for each person. */
        int laughers() {
            int laughing = laughingPlaces();
            int bits = 0;
            for (int place = 0; place < walkers; place++) {
                if ((laughing >> place & 1) == 1) {
                    bits |= 1 << road[place];
                }
            }
            return bits;
        }

        /** A bit for each place of the road at which somebody laughs. */
        private int laughingPlaces() {
            for (int place = 0; place < walkers; place++) {
                sums[place] = sumAt(place);
            }
            int laughing = 0;
            // Each round but the last brings one more who laughs, so more rounds are not needed.
            for (int round = 0; round <= walkers; round++) {
                int before = laughing;
                for (int place = 0; place < walkers; place++) {
                    int j = (before << 1 >> place & 1) + (before >> place + 1 & 1);
                    if (urge(road[place], sums[place], j) >= LAUGHS_FROM) {
                        laughing |= 1 << place;
                    }
                }
                if (laughing == before) {
                    break;
                }
            }
            return laughing;
        }

        int sumAt(int place) {
            int person = road[place];
            int sum = mirths[person];
            if (city == null) {
                return sum;
            }
            facts[0] = person;
            facts[1] = kinds[person];
            facts[2] = vs[person];
            facts[3] = mirths[person];
            facts[4] = place;
            facts[5] = hour % 10;
            for (int clause = 0; clause < city.clauses; clause++) {
                if (city.holds(clause, facts)) {
                    sum += city.amounts[clause];
                }
            }
            return sum;
        }

        int urge(int person, int sum, int j) {
            int asOne = sum + 3 * j;
            int v = vs[person];
            switch (kinds[person]) {
                case TRADER: return asOne + v;
                case BISHOP: return asOne / 2;
                case CHILD: return asOne + 2 * j;
                case FRIEND: return (asOne + v) * (j == 2 ? 2 : 1);
                case WIDOW: return asOne / 2 - (hour % ROW_PARTS == 0 ? 4 : 0);
                case TOLD: return asOne + 2 * j + rows[person * ROW_PARTS + hour % ROW_PARTS] - 4;
                default: return asOne;
            }
        }
    }

    /** What a text has told: clauses as steps for a row of truths, each step behind what it works on. */
    private static final class City {
        static final String LETTERS = "pkvmrh";
        static final String SIGNS = "<=>";
        static final int LETTER_COUNT = 6, SIGN_COUNT = 3;
        /** More than the greatest number of a test, which two digits tell. */
        static final int NUMBERS = 100;
        static final int NOT = -1, AND = -2, OR = -3;

        int near;
        int wind;
        int clauses;
        /** How much a clause adds to a sum: below 0 if it sobers. */
        final int[] amounts = new int[MOST_CLAUSES];
        /** Where the steps of a clause end; those of the next one begin there. */
        private final int[] stepEnds = new int[MOST_CLAUSES];
        private final int[] steps = new int[MOST_BYTES];
        private int stepCount;

        void clear() {
            near = NEAR_WITHOUT;
            wind = WIND_WITHOUT;
            clauses = 0;
            stepCount = 0;
        }

        void addTest(int letter, int sign, int n) {
            addStep((letter * SIGN_COUNT + sign) * NUMBERS + n);
        }

        void addStep(int step) {
            if (stepCount < MOST_BYTES) {
                steps[stepCount] = step;
                stepCount++;
            }
        }

        /** Takes all steps that came since the clause before. */
        void endClause(int amount) {
            if (clauses < MOST_CLAUSES) {
                amounts[clauses] = amount;
                stepEnds[clauses] = stepCount;
                clauses++;
            }
        }

        boolean holds(int clause, int[] facts) {
            int start = clause == 0 ? 0 : stepEnds[clause - 1];
            // The truths that are still to be joined, as bits, the newest lowest; nesting keeps them to a dozen.
            int truths = 0;
            for (int i = start; i < stepEnds[clause]; i++) {
                int step = steps[i];
                if (step == NOT) {
                    truths ^= 1;
                } else if (step == AND) {
                    truths = truths >> 1 & (truths | ~1);
                } else if (step == OR) {
                    truths = truths >> 1 | truths & 1;
                } else {
                    int letter = step / NUMBERS / SIGN_COUNT;
                    int fact = letter >= 0 && letter < facts.length ? facts[letter] : 0;
                    int n = step % NUMBERS;
                    // In the order of SIGNS.
                    int sign = fact < n ? 0 : fact == n ? 1 : 2;
                    truths = truths << 1 | (sign == step / NUMBERS % SIGN_COUNT ? 1 : 0);
                }
            }
            return (truths & 1) == 1;
        }
    }

    /** Holds THE TEXT, and reads it from the left, never going back: where it stops is the FAULT. */
    private static final class Reader {
        final byte[] text = new byte[MOST_BYTES];
        int length;
        int at;

        boolean fills(City city) {
            city.clear();
            at = 0;
            for (int clause = 1; clause <= MOST_CLAUSES; clause++) {
                if (!readClause(city)) {
                    return false;
                }
                if (at == length) {
                    return true;
                }
                if (clause == MOST_CLAUSES || !takes(';')) {
                    return false;
                }
            }
            return false;
        }

        private boolean readClause(City city) {
            int first = at < length ? text[at] : -1;
            if (!takesWord(wordFrom(first))) {
                return false;
            }
            int n = readNumber();
            if (n < 0) {
                return false;
            }
            if (first == 'n') {
                city.near = n;
                return true;
            }
            if (first == 'w') {
                city.wind = n;
                return true;
            }
            if (!takes(' ') || !readEither(city, 0)) {
                return false;
            }
            city.endClause(first == 't' ? n : -n);
            return true;
        }

        private static String wordFrom(int first) {
            switch (first) {
                case 't': return "tickle ";
                case 's': return "sober ";
                case 'n': return "near ";
                case 'w': return "wind ";
                default: return "";
            }
        }

        private boolean takesWord(String word) {
            for (int i = 0; i < word.length(); i++) {
                if (!takes(word.charAt(i))) {
                    return false;
                }
            }
            return !word.isEmpty();
        }

        private boolean takes(char sign) {
            if (at >= length || text[at] != sign) {
                return false;
            }
            at++;
            return true;
        }

        /** Below 0: there is none. */
        private int readNumber() {
            int n = -1;
            for (int digits = 0; digits < 2; digits++) {
                if (at >= length || text[at] < '0' || text[at] > '9') {
                    return n;
                }
                n = Math.max(n, 0) * 10 + text[at] - '0';
                at++;
            }
            return n;
        }

        private boolean readEither(City city, int depth) {
            if (!readBoth(city, depth)) {
                return false;
            }
            for (int more = 0; more < MOST_BYTES && takes('|'); more++) {
                if (!readBoth(city, depth)) {
                    return false;
                }
                city.addStep(City.OR);
            }
            return true;
        }

        private boolean readBoth(City city, int depth) {
            if (!readPart(city, depth)) {
                return false;
            }
            for (int more = 0; more < MOST_BYTES && takes('&'); more++) {
                if (!readPart(city, depth)) {
                    return false;
                }
                city.addStep(City.AND);
            }
            return true;
        }

        private boolean readPart(City city, int depth) {
            boolean mayNest = depth < MOST_NESTED;
            if (mayNest && takes('(')) {
                return readEither(city, depth + 1) && takes(')');
            }
            if (mayNest && takes('!')) {
                boolean isPart = readPart(city, depth + 1);
                city.addStep(City.NOT);
                return isPart;
            }
            int letter = readOneOf(City.LETTERS);
            int sign = letter < 0 ? -1 : readOneOf(City.SIGNS);
            int n = sign < 0 ? -1 : readNumber();
            if (n < 0) {
                return false;
            }
            city.addTest(letter, sign, n);
            return true;
        }

        /** Which one it is; below 0: none. */
        private int readOneOf(String signs) {
            int which = at < length ? signs.indexOf((char) text[at]) : -1;
            if (which >= 0) {
                at++;
            }
            return which;
        }
    }

    /** The bodies of all KINDS: each is sought from a KIND upward, so that a KIND without one takes that above. */
    private static final class Acts {
        /** No body's calls stand open as deep as this: the kinds lie three deep, and tells, winks and coughs are three. */
        private static final int DEEPEST = 20;

        final int[] trace = new int[MOST_TRACED];
        /** How many bodies ran, those that the trace has no room for, too. */
        int ran;
        private int number;
        private int kind;
        private int v;

        void forget() {
            ran = 0;
        }

        void isDoneBy(int person, int personsKind, int personsV) {
            number = person;
            kind = personsKind;
            v = personsV;
        }

        int perform(int act, int x) {
            switch (act) {
                case COUGHS: return coughs(kind, x, 0);
                case WINKS: return winks(kind, x, 0);
                case TELLS: return tells(kind, x, 0);
                default: return 0;
            }
        }

        private void begins(int body) {
            if (ran < MOST_TRACED) {
                trace[ran] = body;
            }
            ran++;
        }

        private int coughs(int from, int x, int depth) {
            if (depth > DEEPEST || from < ONE || from > TOLD) {
                return 0;
            }
            switch (from) {
                case ONE:
                    begins(10);
                    return x + number;
                case BISHOP:
                    begins(30);
                    return coughs(ABOVE[from], x * 3, depth + 1);
                case FRIEND:
                    begins(50);
                    return -coughs(ABOVE[from], x, depth + 1);
                case TOLD:
                    begins(71);
                    return coughs(ABOVE[from], x, depth + 1) ^ v;
                default:
                    return coughs(ABOVE[from], x, depth + 1);
            }
        }

        private int winks(int from, int x, int depth) {
            if (depth > DEEPEST || from < ONE || from > TOLD) {
                return 0;
            }
            switch (from) {
                case ONE:
                    begins(11);
                    return coughs(kind, x, depth + 1) - v;
                case TRADER:
                    begins(20);
                    return winks(ABOVE[from], x, depth + 1) ^ 6;
                case FRIEND:
                    begins(51);
                    return winks(ABOVE[from], x + 1, depth + 1);
                case TOLD:
                    begins(70);
                    return winks(ABOVE[from], x, depth + 1) + coughs(ABOVE[from], 2, depth + 1);
                default:
                    return winks(ABOVE[from], x, depth + 1);
            }
        }

        private int tells(int from, int x, int depth) {
            if (depth > DEEPEST || from < ONE || from > TOLD) {
                return 0;
            }
            switch (from) {
                case ONE:
                    begins(12);
                    return winks(kind, x, depth + 1) * 2;
                case CHILD:
                    begins(40);
                    return tells(ABOVE[from], x, depth + 1) + winks(kind, 1, depth + 1);
                case WIDOW:
                    begins(60);
                    return tells(ABOVE[from], x - number, depth + 1);
                default:
                    return tells(ABOVE[from], x, depth + 1);
            }
        }
    }

    /** A row of items of one sort, kept as longs whatever the sort, or nothing (its length is 0 then). */
    private static final class Tape {
        int sort = NO_SORT;
        int length;
        final long[] items = new long[MOST_ITEMS];

        void becomes(int newSort, int newLength) {
            sort = newSort;
            length = newLength;
            for (int i = 0; i < MOST_ITEMS; i++) {
                items[i] = 0;
            }
        }

        long cut(long v) {
            switch (sort) {
                case BYTES: return (byte) v;
                case SHORTS: return (short) v;
                case INTS: return (int) v;
                case BOOLEANS: return v != 0 ? 1 : 0;
                default: return v;
            }
        }
    }
}
