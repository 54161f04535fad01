import java.io.IOException;
import java.nio.file.Files;
import java.nio.file.Path;
import java.util.BitSet;
import java.util.LinkedHashMap;
import java.util.Map;

/**
 * Tests by the sentences of the document: each one quotes the words that it holds the program to, so that it can be seen
 * here which words no test quotes, and which ones the document does not say.
 */
abstract class Sentences {
    static final int LEAST = Integer.MIN_VALUE, MOST = Integer.MAX_VALUE;
    static final int NONE = -1, BAD = -2, STATE = -3, FULL = -4, LACKING = -5;
    static final int NOTHING = -11, CAST = -12, PLACE = -13, SIZE = -14, NO_NUMBER = -10001;
    static final long NO = Long.MIN_VALUE;

    interface Test {
        void on(LaughingGate x);
    }

    private static final Map<String, String> SECTIONS = new LinkedHashMap<>();
    private static final Map<String, BitSet> QUOTED = new LinkedHashMap<>();
    private static String section = "";
    private static String sentence = "";
    private static int answers;
    private static int tests;
    private static int wrong;

    static void readDocument() throws IOException {
        Path document = Path.of("../shared/DOC.md");
        if (!Files.exists(document)) {
            System.out.println("../shared/DOC.md is not here, so that nobody looks whether it says what is quoted");
            return;
        }
        String all = Files.readString(document);
        for (String part : all.split("\n## ")) {
            String title = part.split("[:\n]")[0];
            String words = part.substring(part.indexOf('\n') + 1).replaceAll("(?m)^(Ahead of the calls .*|```.*|==== . ?)", "")
                .replaceAll("`[^`]*\\)`: ", "").replaceAll("\\s+", " ");
            SECTIONS.put(title, words);
            QUOTED.put(title, new BitSet());
        }
    }

    /** All tests that follow quote this section. */
    static void in(String title) {
        section = title;
    }

    /** A test of its own, on an object of its own, for these words of the section. */
    static void edge(String words, Test test) {
        sentence = words;
        answers = 0;
        tests++;
        if (!SECTIONS.isEmpty()) {
            quote(words);
        }
        test.on(new LaughingGate());
        if (answers == 0) {
            fail("nothing was asked");
        }
    }

    private static void quote(String words) {
        int start = SECTIONS.getOrDefault(section, "").indexOf(words);
        if (start < 0) {
            fail("the document does not say so");
        } else {
            QUOTED.get(section).set(start, start + words.length());
        }
    }

    static void due(String call, long got, long want) {
        answers++;
        if (got != want) {
            fail(call + " answered " + got + ", due is " + want);
        }
    }

    static void due(String what, String got, String want) {
        answers++;
        if (!got.equals(want)) {
            fail(what + ": " + got + ", due is " + want);
        }
    }

    private static void fail(String why) {
        wrong++;
        System.out.println(section + " \"" + sentence + "\": " + why);
    }

    /** Fails if there are words in one of these sections that no test quotes. */
    static void allIsQuoted(String titles) {
        for (Map.Entry<String, String> one : SECTIONS.entrySet()) {
            if (one.getKey().matches(titles)) {
                StringBuilder left = new StringBuilder();
                for (int i = 0; i < one.getValue().length(); i++) {
                    left.append(QUOTED.get(one.getKey()).get(i) ? '~' : one.getValue().charAt(i));
                }
                String words = left.toString().replaceAll("~+", "~").replaceAll("[^A-Za-z0-9~]+", " ").replaceAll("(~ ?)+", "~ ");
                if (words.matches(".*[A-Za-z0-9].*")) {
                    wrong++;
                    System.out.println(one.getKey() + ": no test quotes " + words);
                }
            }
        }
    }

    static boolean isAllRight() {
        System.out.println(tests + " tests by sentences, " + wrong + " failures");
        return wrong == 0 && tests > 0;
    }

    // ---- what many tests do

    /** So many of KIND ONE, v 0, MIRTH 0: they never laugh as long as there is no city. */
    static void crowd(LaughingGate x, int n) {
        for (int i = 0; i < n; i++) {
            x.one(0, 0, 0);
        }
    }

    /** One who laughs of itself now (URGE 18), and, once it has laughed, in every second hour. */
    static int laugher(LaughingGate x) {
        return x.one(1, 9, 9);
    }

    static int city(LaughingGate x, String text) {
        for (char sign : text.toCharArray()) {
            x.feed(sign);
        }
        return x.city();
    }

    /** A text that is no city, and where it stops being one. */
    static void fault(LaughingGate x, String text, int at) {
        due("city of '" + text + "'", city(x, text), -10 - at);
    }

    static void isCity(LaughingGate x, String text) {
        due("'" + text + "' is a city", city(x, text) >= 0 ? 1 : 0, 1);
    }

    /** Brings the hour to this one; the gate is kept down, so that nobody goes in. */
    static void hourBecomes(LaughingGate x, int hour) {
        x.down(99);
        for (int gone = x.told(0); gone < hour; gone += 60) {
            x.pass(Math.min(60, hour - gone));
            x.down(99);
        }
        due("hour", x.told(0), hour);
    }

    static void road(LaughingGate x, int... people) {
        due("how many are on the road", x.count(1), people.length);
        for (int place = 0; place < people.length; place++) {
            due("who is at place " + place, x.told(10 + place), people[place]);
        }
        due("who is behind the last", x.told(10 + people.length), NONE);
    }

    static void urges(LaughingGate x, int person, int alone, int byOne, int byTwo) {
        due("urge of " + person, x.of(person, 10), alone);
        due("urge of " + person + " by one", x.of(person, 11), byOne);
        due("urge of " + person + " by two", x.of(person, 12), byTwo);
    }

    static void trace(LaughingGate x, int... bodies) {
        due("how many bodies ran", x.count(7), bodies.length);
        for (int i = 0; i < bodies.length; i++) {
            due("trace(" + i + ")", x.trace(i), bodies[i]);
        }
        due("trace behind the last", x.trace(bodies.length), NONE);
    }

    static void bytes(LaughingGate x, int tape, int... items) {
        fill(x, tape, 0, items);
    }

    static void fill(LaughingGate x, int tape, int sort, int... items) {
        x.tape(tape, sort, items.length);
        for (int i = 0; i < items.length; i++) {
            x.item(tape, i, items[i]);
        }
    }

    static void holds(LaughingGate x, int tape, int... items) {
        for (int i = 0; i < items.length; i++) {
            due("read(" + tape + ", " + i + ")", x.read(tape, i), items[i]);
        }
        due("read behind the last", x.read(tape, items.length), NO);
    }
}
