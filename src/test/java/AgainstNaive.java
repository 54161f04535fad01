import java.lang.reflect.Method;
import java.lang.reflect.Modifier;
import java.util.ArrayList;
import java.util.Arrays;
import java.util.Comparator;
import java.util.List;

/** Holds the program against NaiveGate by long runs of calls, the same ones each time. */
public final class AgainstNaive {
    private static final int RUNS = 300, CALLS = 512;
    private static long seed = 20261118;
    private static int wrong = 0;

    private static int pick(int below) {
        seed = seed * 6364136223846793005L + 1442695040888963407L;
        return (int) ((seed >>> 33) % below);
    }

    private static int between(int least, int most) {
        return least + pick(most - least + 1);
    }

    /** A number as told, most times; else one just beyond, or far beyond. */
    private static int mostly(int least, int most) {
        int[] beyond = {least - 1, most + 1, least - 2, Integer.MIN_VALUE, Integer.MAX_VALUE};
        return pick(14) == 0 ? beyond[pick(beyond.length)] : between(least, most);
    }

    private static String test() {
        int letter = pick(6);
        int[] most = {6, 7, 9, 9, 6, 9};
        return "" + "pkvmrh".charAt(letter) + "<=>".charAt(pick(3)) + between(0, most[letter]);
    }

    private static String part(int within) {
        int form = pick(within < 5 ? 6 : 4);
        return form == 5 ? "!" + part(within + 1) : form == 4 ? "(" + either(within + 1) + ")" : test();
    }

    private static String either(int within) {
        StringBuilder all = new StringBuilder(part(within));
        for (int more = pick(10) - 6; more > 0; more--) {
            all.append("|&".charAt(pick(2))).append(part(within));
        }
        return all.toString();
    }

    private static String clause() {
        switch (pick(6)) {
            case 0: return "near " + (pick(3) == 0 ? between(0, 99) : between(0, 6));
            case 1: return "wind " + (pick(4) == 0 ? between(0, 99) : between(0, 5));
            case 2:
            case 3: return "sober " + between(0, 12) + " " + either(0);
            default: return "tickle " + (pick(9) == 0 ? 99 : between(0, 12)) + " " + either(0);
        }
    }

    private static String text() {
        StringBuilder all = new StringBuilder(clause());
        for (int more = pick(10) == 0 ? 11 : pick(5); more > 0; more--) {
            all.append(';').append(clause());
        }
        if (pick(3) == 0) {
            int at = pick(all.length());
            char sign = "tsnw ;0123pkvmrh<=>()!&|x".charAt(pick(25));
            switch (pick(4)) {
                case 0: all.setCharAt(at, sign); break;
                case 1: all.insert(at, sign); break;
                case 2: all.deleteCharAt(at); break;
                default: all.setLength(at); break;
            }
        }
        return all.toString();
    }

    private static Object[] arguments(String name) {
        int person = mostly(0, 5);
        switch (name) {
            case "one": return new Object[] {mostly(0, 6), mostly(0, 9), mostly(0, 9)};
            case "of": return new Object[] {person, mostly(0, 12)};
            case "cheer": return new Object[] {person, mostly(0, 9)};
            case "swap": return new Object[] {person, mostly(0, 5)};
            case "again": return new Object[] {person};
            case "down": return new Object[] {pick(3) == 0 ? mostly(0, 99) : mostly(0, 2)};
            case "row": return new Object[] {person, mostly(0, 3), mostly(0, 9)};
            case "feed": return new Object[] {mostly(0, 127)};
            case "told": return new Object[] {mostly(0, 15)};
            case "pass": return new Object[] {pick(8) == 0 ? mostly(0, 60) : mostly(0, 3)};
            case "on": return new Object[] {mostly(0, 60), pick(2) == 0 ? mostly(0, 2) : mostly(10, 15)};
            case "turn": return new Object[] {mostly(1, 12)};
            case "see": return new Object[] {pick(8) == 0 ? -1 : person, mostly(0, 12), pick(2) == 0};
            case "can": return new Object[] {person, mostly(0, 1)};
            case "odds": return new Object[] {mostly(1, 20), mostly(0, 1)};
            case "mean": return new Object[] {mostly(0, 1)};
            case "plan": return new Object[] {pick(15) == 0 ? -1 : mostly(0, 3), person};
            case "ends": return new Object[] {mostly(0, 1)};
            case "book": return new Object[] {pick(10) == 0 ? -1 : person, mostly(0, 9)};
            case "judge": return new Object[] {mostly(0, 5), mostly(0, 3)};
            case "act": return new Object[] {person, mostly(0, 2), pick(4) == 0 ? (int) seed : between(-9, 9)};
            case "trace": return new Object[] {mostly(0, 12)};
            case "taken": return new Object[] {person, mostly(0, 6)};
            case "count": return new Object[] {mostly(0, 7)};
            case "tape": return new Object[] {mostly(0, 5), mostly(-1, 4), pick(3) == 0 ? mostly(0, 60) : mostly(0, 8)};
            case "item": return new Object[] {mostly(0, 5), mostly(0, 6), pick(3) == 0 ? seed : (long) between(0, 5)};
            case "read": return new Object[] {mostly(0, 5), mostly(0, 6)};
            case "shift": return new Object[] {mostly(0, 5), mostly(0, 4), mostly(0, 5), mostly(0, 4), mostly(0, 4)};
            default: return new Object[0];
        }
    }

    private static final List<Method> FACE = new ArrayList<>();

    private static Object answer(Object gate, String name, Object[] arguments) throws Exception {
        for (Method method : gate.getClass().getDeclaredMethods()) {
            if (method.getName().equals(name) && !Modifier.isPrivate(method.getModifiers())) {
                method.setAccessible(true);
                return method.invoke(gate, arguments);
            }
        }
        throw new NoSuchMethodException(name);
    }

    /** Whether both answered alike. */
    private static boolean both(int run, Object[] gates, List<String> calls, String name, Object... arguments) throws Exception {
        Object got = answer(gates[0], name, arguments);
        Object due = answer(gates[1], name, arguments);
        calls.add(name + Arrays.toString(arguments) + " -> " + got);
        if (!got.equals(due)) {
            wrong++;
            System.out.println("run " + run + ": " + name + Arrays.toString(arguments) + " answered " + got + ", due is " + due);
            System.out.println("  behind " + calls);
        }
        return got.equals(due);
    }

    private static boolean isLikeAll(int run, Object[] gates, List<String> calls) throws Exception {
        boolean alike = true;
        for (int person = 0; person < 6; person++) {
            for (int what = 0; what <= 12; what++) {
                alike = alike && both(run, gates, calls, "of", person, what);
            }
            alike = alike && both(run, gates, calls, "can", person, pick(2));
        }
        for (int what = 0; what < 16; what++) {
            alike = alike && both(run, gates, calls, "told", what);
        }
        return alike && both(run, gates, calls, "turn", between(1, 12)) && both(run, gates, calls, "odds", between(1, 20), 0)
            && both(run, gates, calls, "ends", pick(2)) && both(run, gates, calls, "looked");
    }

    /** What would be seen of one, were another one merrier than it is: so that some numbers fit, and others do not. */
    private static boolean witness(int run, Object[] gates, List<String> calls) throws Exception {
        int merry = pick(6);
        int seen = pick(6);
        int before = (Integer) answer(gates[1], "of", new Object[] {merry, 2});
        boolean alike = both(run, gates, calls, "cheer", merry, pick(10));
        int hours = (Integer) answer(gates[1], "of", new Object[] {seen, 6});
        int n = hours < 0 ? 12 : Math.min(12, Math.max(0, hours - pick(2)));
        return alike && both(run, gates, calls, "see", seen, n, hours >= 0 && n >= hours)
            && both(run, gates, calls, "cheer", merry, before)
            && both(run, gates, calls, "of", merry, 7) && both(run, gates, calls, "can", merry, pick(2));
    }

    /** The road as a row of bytes, at times with one that is otherwise, or too few. */
    private static boolean judged(int run, Object[] gates, List<String> calls) throws Exception {
        int tape = pick(6);
        int from = pick(3);
        boolean alike = both(run, gates, calls, "tape", tape, 0, from + pick(8));
        for (int place = 0; place < 6 && alike; place++) {
            int who = pick(12) == 0 ? pick(6) : (Integer) answer(gates[1], "told", new Object[] {10 + place});
            alike = both(run, gates, calls, "item", tape, from + place, (long) who);
        }
        return alike && both(run, gates, calls, "judge", tape, from);
    }

    /** Rows of one sort, filled and moved. */
    private static boolean moved(int run, Object[] gates, List<String> calls) throws Exception {
        int sort = pick(5);
        boolean alike = both(run, gates, calls, "tape", 0, sort, pick(7)) && both(run, gates, calls, "tape", 1, sort, pick(7));
        for (int i = 0; i < 6 && alike; i++) {
            alike = both(run, gates, calls, "item", pick(2), i, seed >> pick(64));
        }
        alike = alike && both(run, gates, calls, "shift", pick(2), pick(5), pick(2), pick(5), pick(5));
        for (int i = 0; i < 12 && alike; i++) {
            alike = both(run, gates, calls, "read", i / 6, i % 6);
        }
        return alike;
    }

    /** A random run: people and a city first, so that most calls find something. */
    private static boolean oneRun(int run) throws Exception {
        Object[] gates = {new LaughingGate(), new NaiveGate()};
        List<String> calls = new ArrayList<>();
        boolean alike = true;
        for (int people = pick(7); people > 0 && alike; people--) {
            alike = both(run, gates, calls, "one", between(0, 6), between(0, 9), between(0, 9));
        }
        while (calls.size() < CALLS - 110 && alike) {
            if (pick(40) == 0) {
                // What stands in the text by single feeds would spoil it.
                alike = both(run, gates, calls, "city");
                for (char sign : text().toCharArray()) {
                    alike = alike && both(run, gates, calls, "feed", (int) sign);
                }
                alike = alike && both(run, gates, calls, "city");
            } else if (pick(30) == 0) {
                int what = pick(3);
                alike = what == 0 ? judged(run, gates, calls) : what == 1 ? moved(run, gates, calls)
                    : both(run, gates, calls, "see", -1, 0, true) && witness(run, gates, calls) && witness(run, gates, calls);
            } else {
                String name = FACE.get(pick(FACE.size())).getName();
                alike = both(run, gates, calls, name, arguments(name));
            }
        }
        return alike && isLikeAll(run, gates, calls);
    }

    /** Texts alone, since they fail in more ways than people laugh. */
    private static boolean oneText(int run) throws Exception {
        Object[] gates = {new LaughingGate(), new NaiveGate()};
        List<String> calls = new ArrayList<>();
        boolean alike = true;
        for (int texts = 0; texts < 4; texts++) {
            for (char sign : text().toCharArray()) {
                alike = alike && both(run, gates, calls, "feed", (int) sign);
            }
            alike = alike && both(run, gates, calls, "city");
        }
        for (int kind = 0; kind < 6 && alike; kind++) {
            alike = both(run, gates, calls, "one", pick(7), pick(10), pick(10));
        }
        for (int rows = pick(3); rows > 0 && alike; rows--) {
            alike = witness(run, gates, calls);
        }
        return alike && isLikeAll(run, gates, calls);
    }

    public static void main(String[] args) throws Exception {
        for (Method method : LaughingGate.class.getDeclaredMethods()) {
            if (Modifier.isPublic(method.getModifiers())) {
                FACE.add(method);
            }
        }
        // The order in which a machine tells methods is not set; the runs shall be the same everywhere.
        FACE.sort(Comparator.comparing(Method::getName));
        for (int run = 0; run < RUNS && wrong < 5; run++) {
            oneRun(run);
            oneText(run);
        }
        System.out.println(wrong == 0 ? "both answered alike" : wrong + " answers were not alike");
        if (wrong != 0) {
            System.exit(1);
        }
    }
}
