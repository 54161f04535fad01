import java.util.ArrayList;
import java.util.List;
import java.util.Objects;
import java.util.regex.Matcher;
import java.util.regex.Pattern;

/**
 * The document once more, by other means than the program's (people are objects of classes, a city is its text,
 * a fault is found by a pattern), so that the two can be held against each other.
 */
final class NaiveGate {
    static final int NONE = -1, BAD = -2, STATE = -3, FULL = -4;
    static final long NO = Long.MIN_VALUE;

    /** Runs of one act, told to by the bodies. */
    private final List<Integer> ran = new ArrayList<>();

    private class One {
        int number, kind, v, mirth;
        int[] row = new int[4];

        int urge(int sum, int j, int hour) { return sum + 3 * j; }
        int coughs(int x) { ran.add(10); return x + number; }
        int winks(int x) { ran.add(11); return coughs(x) - v; }
        int tells(int x) { ran.add(12); return winks(x) * 2; }
    }

    private class Trader extends One {
        @Override int urge(int sum, int j, int hour) { return super.urge(sum, j, hour) + v; }
        @Override int winks(int x) { ran.add(20); return super.winks(x) ^ 6; }
    }

    private class Bishop extends One {
        @Override int urge(int sum, int j, int hour) { return super.urge(sum, j, hour) / 2; }
        @Override int coughs(int x) { ran.add(30); return super.coughs(x * 3); }
    }

    private class Child extends One {
        @Override int urge(int sum, int j, int hour) { return super.urge(sum, j, hour) + 2 * j; }
        @Override int tells(int x) { ran.add(40); return super.tells(x) + winks(1); }
    }

    private class Friend extends Trader {
        @Override int urge(int sum, int j, int hour) {
            int asTrader = super.urge(sum, j, hour);
            return j == 2 ? asTrader + asTrader : asTrader;
        }
        @Override int coughs(int x) { ran.add(50); return -super.coughs(x); }
        @Override int winks(int x) { ran.add(51); return super.winks(x + 1); }
    }

    private class Widow extends Bishop {
        @Override int urge(int sum, int j, int hour) {
            int asBishop = super.urge(sum, j, hour);
            return hour % 4 == 0 ? asBishop - 4 : asBishop;
        }
        @Override int tells(int x) { ran.add(60); return super.tells(x - number); }
    }

    private class Told extends Child {
        @Override int urge(int sum, int j, int hour) { return super.urge(sum, j, hour) + row[hour % 4] - 4; }
        @Override int winks(int x) { ran.add(70); return super.winks(x) + super.coughs(2); }
        @Override int coughs(int x) { ran.add(71); return super.coughs(x) ^ v; }
    }

    private One make(int kind) {
        One one = kind == 0 ? new One() : kind == 1 ? new Trader() : kind == 2 ? new Bishop() : kind == 3 ? new Child()
            : kind == 4 ? new Friend() : kind == 5 ? new Widow() : new Told();
        one.kind = kind;
        return one;
    }

    /** All that an image keeps. */
    private final class All {
        List<One> people = new ArrayList<>();
        List<One> road = new ArrayList<>();
        int down, falls, hour;
        String city;
        List<int[]> seen = new ArrayList<>(), plan = new ArrayList<>(), book = new ArrayList<>();

        All copy() {
            All to = new All();
            for (One one : people) {
                One twin = make(one.kind);
                twin.number = one.number;
                twin.v = one.v;
                twin.mirth = one.mirth;
                twin.row = one.row.clone();
                to.people.add(twin);
            }
            for (One one : road) {
                to.road.add(to.people.get(one.number));
            }
            to.down = down;
            to.falls = falls;
            to.hour = hour;
            to.city = city;
            to.seen.addAll(seen);
            to.plan.addAll(plan);
            to.book.addAll(book);
            return to;
        }

        boolean isIn(int person) { return !road.contains(people.get(person)); }

        int lastOf(String word, int without) {
            int n = without;
            for (String clause : clauses()) {
                if (clause.startsWith(word)) {
                    n = Integer.parseInt(clause.split(" ")[1]);
                }
            }
            return n;
        }

        String[] clauses() { return city == null ? new String[0] : city.split(";"); }

        int sum(One one) {
            int sum = one.mirth;
            for (String clause : clauses()) {
                String[] parts = clause.split(" ");
                if (parts.length == 3 && holds(parts[2], one)) {
                    sum += (parts[0].equals("tickle") ? 1 : -1) * Integer.parseInt(parts[1]);
                }
            }
            return sum;
        }

        boolean holds(String e, One one) {
            int split = outermost(e, '|');
            if (split >= 0) {
                return holds(e.substring(0, split), one) || holds(e.substring(split + 1), one);
            }
            split = outermost(e, '&');
            if (split >= 0) {
                return holds(e.substring(0, split), one) && holds(e.substring(split + 1), one);
            }
            if (e.startsWith("!")) {
                return !holds(e.substring(1), one);
            }
            if (e.startsWith("(")) {
                return holds(e.substring(1, e.length() - 1), one);
            }
            int n = Integer.parseInt(e.substring(2));
            int is = switch (e.charAt(0)) {
                case 'p' -> one.number;
                case 'k' -> one.kind;
                case 'v' -> one.v;
                case 'm' -> one.mirth;
                case 'r' -> road.indexOf(one);
                default -> hour % 10;
            };
            return switch (e.charAt(1)) {
                case '<' -> is < n;
                case '=' -> is == n;
                default -> is > n;
            };
        }

        int outermost(String e, char sign) {
            int open = 0;
            for (int i = 0; i < e.length(); i++) {
                open += e.charAt(i) == '(' ? 1 : e.charAt(i) == ')' ? -1 : 0;
                if (open == 0 && e.charAt(i) == sign) {
                    return i;
                }
            }
            return -1;
        }

        List<One> laughers() {
            List<One> laughing = new ArrayList<>();
            for (;;) {
                List<One> more = new ArrayList<>();
                for (int r = 0; r < road.size(); r++) {
                    int j = 0;
                    if (r > 0 && laughing.contains(road.get(r - 1))) {
                        j++;
                    }
                    if (r + 1 < road.size() && laughing.contains(road.get(r + 1))) {
                        j++;
                    }
                    One one = road.get(r);
                    if (!laughing.contains(one) && one.urge(sum(one), j, hour) >= 10) {
                        more.add(one);
                    }
                }
                if (more.isEmpty()) {
                    return laughing;
                }
                laughing.addAll(more);
            }
        }

        int bits(List<One> some) {
            int bits = 0;
            for (One one : some) {
                bits |= 1 << one.number;
            }
            return bits;
        }

        void anHour() {
            if (down == 0 && !road.isEmpty()) {
                road.remove(0);
            }
            List<One> laughing = laughers();
            boolean near = false;
            for (One one : laughing) {
                near |= road.indexOf(one) < lastOf("near", 3);
            }
            if (near) {
                down = lastOf("wind", 2);
                falls++;
            } else if (down > 0) {
                down--;
            }
            for (One one : road) {
                one.mirth = laughing.contains(one) ? 0 : Math.min(9, one.mirth + 1);
            }
            hour++;
        }

        All behind(int n) {
            All then = copy();
            for (int i = 0; i < n; i++) {
                then.anHour();
            }
            return then;
        }

        int in() { return people.size() - road.size(); }

        boolean seenIsSo() {
            for (int[] row : seen) {
                if (behind(row[1]).isIn(row[0]) != (row[2] == 1)) {
                    return false;
                }
            }
            return true;
        }
    }

    private All all = new All();
    private All image;
    private String text = "";
    private final List<String> cities = new ArrayList<>();
    private final Object[] tapes = new Object[6];

    private boolean isOne(int person) { return person >= 0 && person < all.people.size(); }

    int one(int kind, int v, int mirth) {
        if (kind < 0 || kind > 6) return NONE;
        if (v < 0 || v > 9 || mirth < 0 || mirth > 9) return BAD;
        if (all.people.size() == 6) return FULL;
        One one = make(kind);
        one.number = all.people.size();
        one.v = v;
        one.mirth = mirth;
        all.people.add(one);
        all.road.add(one);
        return one.number;
    }

    int of(int person, int what) {
        if (!isOne(person)) return -10001;
        One one = all.people.get(person);
        int place = all.road.indexOf(one);
        if (what == 0) return one.kind;
        if (what == 1) return one.v;
        if (what == 2) return one.mirth;
        if (what == 3) return place < 0 ? 1 : 0;
        if (what == 4) return place < 0 ? -5 : place;
        if (what == 5) return all.laughers().contains(one) ? 1 : 0;
        if (what == 6) {
            for (int n = 0; n <= 60; n++) {
                if (all.behind(n).isIn(person)) return n;
            }
            return -5;
        }
        if (what == 7) {
            int bits = 0;
            for (int mirth = 0; mirth < 10; mirth++) {
                All other = all.copy();
                other.people.get(person).mirth = mirth;
                bits += other.seenIsSo() ? 1 << mirth : 0;
            }
            return bits;
        }
        if (what >= 10 && what <= 12 && place >= 0) return one.urge(all.sum(one), what - 10, all.hour);
        return -10001;
    }

    int cheer(int person, int n) {
        if (!isOne(person)) return NONE;
        if (n < 0 || n > 9) return BAD;
        int was = all.people.get(person).mirth;
        all.people.get(person).mirth = n;
        return was;
    }

    int swap(int one, int other) {
        if (!isOne(one) || !isOne(other)) return NONE;
        if (one == other) return BAD;
        if (all.isIn(one) || all.isIn(other)) return STATE;
        return change(all, one, other);
    }

    private int change(All where, int one, int other) {
        One first = where.people.get(one);
        One second = where.people.get(other);
        int place = where.road.indexOf(first);
        int to = where.road.indexOf(second);
        where.road.set(to, first);
        where.road.set(place, second);
        return to;
    }

    int again(int person) {
        if (!isOne(person)) return NONE;
        if (!all.isIn(person)) return STATE;
        all.road.add(all.people.get(person));
        return all.road.size() - 1;
    }

    int down(int n) {
        if (n < 0 || n > 99) return BAD;
        int was = all.down;
        all.down = n;
        return was;
    }

    int row(int person, int part, int n) {
        if (!isOne(person) || part < 0 || part > 3) return NONE;
        if (n < 0 || n > 9) return BAD;
        if (all.people.get(person).kind != 6) return STATE;
        int was = all.people.get(person).row[part];
        all.people.get(person).row[part] = n;
        return was;
    }

    int feed(int sign) {
        if (sign < 0 || sign > 127) return BAD;
        if (text.length() == 100) return FULL;
        text += (char) sign;
        return text.length();
    }

    private static final Pattern CITY = pattern();

    private static Pattern pattern() {
        String test = "[pkvmrh][<=>][0-9][0-9]?";
        String part = test;
        String either = "";
        for (int within = 4; within >= 0; within--) {
            if (within < 4) {
                part = "(?:" + test + "|!" + part + "|\\(" + either + "\\))";
            }
            String both = part + "(?:&" + part + ")*";
            either = both + "(?:\\|" + both + ")*";
        }
        String n = "[0-9][0-9]?";
        String clause = "(?:tickle " + n + " " + either + "|sober " + n + " " + either + "|near " + n + "|wind " + n + ")";
        return Pattern.compile(clause + "(?:;" + clause + "){0,9}");
    }

    /** Below 0: there is none. */
    static int faultOf(String text) {
        for (int end = 1; end <= text.length(); end++) {
            Matcher matcher = CITY.matcher(text.substring(0, end));
            if (!matcher.matches() && !matcher.hitEnd()) {
                return end - 1;
            }
        }
        return CITY.matcher(text).matches() ? -1 : text.length();
    }

    int city() {
        if (cities.size() == 6) return FULL;
        String was = text;
        text = "";
        int fault = faultOf(was);
        if (fault >= 0) return -10 - fault;
        cities.add(was);
        all.city = was;
        return cities.size() - 1;
    }

    int told(int what) {
        switch (what) {
            case 0: return all.hour;
            case 1: return all.lastOf("near", 3);
            case 2: return all.lastOf("wind", 2);
            case 3: return all.down;
            case 4: return all.falls;
            case 5: return all.bits(all.laughers());
            case 6: return spark()[0];
            case 7: return spark()[1];
            case 8: return hush();
            case 9: return all.in();
            default: return what >= 10 && what < 10 + all.road.size() ? all.road.get(what - 10).number : NONE;
        }
    }

    private int[] spark() {
        int[] best = {-5, 0};
        for (int person = 0; person < all.people.size(); person++) {
            if (!all.isIn(person)) {
                All other = all.copy();
                other.people.get(person).mirth = 9;
                int n = other.laughers().size();
                if (best[0] == -5 || n > best[1]) {
                    best = new int[] {person, n};
                }
            }
        }
        return best;
    }

    private int hush() {
        int road = all.bits(all.road);
        for (int size = 0; size <= 6; size++) {
            for (int set = 0; set < 64; set++) {
                if (Integer.bitCount(set) == size && (set | road) == road) {
                    All other = all.copy();
                    for (One one : other.people) {
                        one.mirth = (set & 1 << one.number) != 0 ? 0 : one.mirth;
                    }
                    if (other.behind(1).falls == all.falls) return set;
                }
            }
        }
        return -5;
    }

    int pass(int n) {
        if (n < 0 || n > 60) return BAD;
        if (all.hour + n > 9999) return STATE;
        all = all.behind(n);
        all.falls = Math.min(9999, all.falls);
        return all.hour;
    }

    int on(int n, int what) {
        if (!(what >= 0 && what <= 2 || what >= 10 && isOne(what - 10))) return NONE;
        if (n < 0 || n > 60) return BAD;
        All then = all.behind(n);
        return what == 0 ? then.down : what == 1 ? then.falls : what == 2 ? then.in() : then.people.get(what - 10).mirth;
    }

    int turn(int n) {
        if (n < 1 || n > 12) return BAD;
        int most = all.behind(n).in();
        int best = -5;
        for (int two = 1; two < 60; two++) {
            int one = two / 10;
            int other = two % 10;
            if (one < other && isOne(other) && !all.isIn(one) && !all.isIn(other)) {
                All changed = all.copy();
                change(changed, one, other);
                int in = changed.behind(n).in();
                if (in > most) {
                    most = in;
                    best = two;
                }
            }
        }
        return best;
    }

    int see(int person, int n, boolean isIn) {
        if (person == -1) {
            all.seen.clear();
            return 0;
        }
        if (!isOne(person)) return NONE;
        if (n < 0 || n > 12) return BAD;
        if (all.seen.size() == 5) return FULL;
        all.seen.add(new int[] {person, n, isIn ? 1 : 0});
        return all.seen.size();
    }

    int can(int person, int what) {
        if (!isOne(person) || what < 0 || what > 1) return NONE;
        int many = 0;
        int least = -5;
        for (int v = 9; v >= 0; v--) {
            All other = all.copy();
            other.people.get(person).v = v;
            if (other.seenIsSo()) {
                many++;
                least = v;
            }
        }
        return what == 0 ? many : least;
    }

    private static long lowest(int above, int below, int part) {
        int a = above;
        int b = below;
        while (b != 0) {
            int rest = a % b;
            a = b;
            b = rest;
        }
        return part == 0 ? above / a : below / a;
    }

    long odds(int n, int part) {
        if (n < 1 || n > 20 || part < 0 || part > 1 || all.road.isEmpty()) return NO;
        int more = 0;
        for (One one : all.road) {
            All other = all.copy();
            other.people.get(one.number).mirth = 9;
            more += other.behind(n).falls > all.falls ? 1 : 0;
        }
        return lowest(more, all.road.size(), part);
    }

    long mean(int part) {
        if (part < 0 || part > 1 || all.road.isEmpty()) return NO;
        int together = 0;
        for (One one : all.road) {
            together += one.mirth;
        }
        return lowest(together, all.road.size(), part);
    }

    int plan(int what, int person) {
        if (what == -1) {
            all.plan.clear();
            return 0;
        }
        if (what < 0 || what > 3 || (what == 1 || what == 2) && !isOne(person)) return NONE;
        if (all.plan.size() == 10) return FULL;
        all.plan.add(new int[] {what, person});
        return all.plan.size();
    }

    int ends(int what) {
        if (what < 0 || what > 1) return NONE;
        All then = all.copy();
        for (int[] row : all.plan) {
            if (row[0] == 0) then.anHour();
            if (row[0] == 1) then.people.get(row[1]).mirth = 0;
            if (row[0] == 2) then.people.get(row[1]).mirth = 9;
            if (row[0] == 3) then.down = 0;
        }
        return what == 0 ? then.in() : then.falls;
    }

    int book(int person, int mirth) {
        if (person == -1) {
            all.book.clear();
            return 0;
        }
        if (!isOne(person)) return NONE;
        if (mirth < 0 || mirth > 9) return BAD;
        if (all.book.size() == 8) return FULL;
        all.book.add(new int[] {person, mirth});
        return all.book.size();
    }

    int looked() {
        int i = 0;
        for (int[] row : all.book) {
            if (all.people.get(row[0]).mirth != row[1]) return i;
            i++;
        }
        return -5;
    }

    int judge(int tape, int i) {
        if (tape < 0 || tape > 5) return NONE;
        if (tapes[tape] != null && !(tapes[tape] instanceof byte[])) return -12;
        if (all.road.isEmpty()) return -5;
        if (i < 0 || tapes[tape] == null) return 100;
        byte[] row = (byte[]) tapes[tape];
        int looked = 0;
        for (One one : all.road) {
            if ((long) i + looked >= row.length) return 100 + looked;
            if (row[i + looked] != one.number) return looked;
            looked++;
        }
        return -5;
    }

    int image() {
        image = all.copy();
        return all.people.size();
    }

    int undo() {
        if (image == null) return STATE;
        all = image.copy();
        return all.people.size();
    }

    int act(int person, int act, int x) {
        ran.clear();
        if (!isOne(person)) return 0;
        One one = all.people.get(person);
        return act == 0 ? one.coughs(x) : act == 1 ? one.winks(x) : act == 2 ? one.tells(x) : 0;
    }

    int trace(int i) { return i >= 0 && i < Math.min(20, ran.size()) ? ran.get(i) : NONE; }

    int taken(int person, int k) {
        if (k < 0 || k > 6) return BAD;
        if (!isOne(person)) return -11;
        One one = all.people.get(person);
        return make(k).getClass().isInstance(one) ? one.kind : -12;
    }

    int count(int what) {
        int[] many = {all.people.size(), all.road.size(), cities.size(), all.seen.size(), all.plan.size(),
            all.book.size(), text.length(), ran.size()};
        return what < 0 || what > 7 ? BAD : many[what];
    }

    int tape(int tape, int sort, int n) {
        if (tape < 0 || tape > 5) return NONE;
        if (sort == -1) {
            tapes[tape] = null;
            return 1;
        }
        if (sort < 0 || sort > 4 || n > 60) return BAD;
        if (n < 0) return -14;
        tapes[tape] = sort == 0 ? new byte[n] : sort == 1 ? new short[n] : sort == 2 ? new int[n]
            : sort == 3 ? new long[n] : (Object) new boolean[n];
        return 1;
    }

    int item(int tape, int i, long v) {
        if (tape < 0 || tape > 5) return NONE;
        Object row = tapes[tape];
        if (row == null) return -11;
        if (i < 0 || i >= java.lang.reflect.Array.getLength(row)) return -13;
        if (row instanceof byte[] items) items[i] = (byte) v;
        if (row instanceof short[] items) items[i] = (short) v;
        if (row instanceof int[] items) items[i] = (int) v;
        if (row instanceof long[] items) items[i] = v;
        if (row instanceof boolean[] items) items[i] = v != 0;
        return 1;
    }

    long read(int tape, int i) {
        if (tape < 0 || tape > 5 || tapes[tape] == null) return NO;
        Object row = tapes[tape];
        if (i < 0 || i >= java.lang.reflect.Array.getLength(row)) return NO;
        if (row instanceof boolean[] items) return items[i] ? 1 : 0;
        return java.lang.reflect.Array.getLong(row, i);
    }

    int shift(int tape, int i, int other, int j, int n) {
        if (tape < 0 || tape > 5 || other < 0 || other > 5) return NONE;
        Object from = tapes[tape];
        Object to = tapes[other];
        if (Objects.isNull(from) || Objects.isNull(to)) return -11;
        if (from.getClass() != to.getClass()) return -12;
        try {
            System.arraycopy(from, i, to, j, n);
            return n;
        } catch (IndexOutOfBoundsException e) {
            return -13;
        }
    }
}
