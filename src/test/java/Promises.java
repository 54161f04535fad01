/** Each promise of the document by number: what is ordinary, the edges that it names, and wrong numbers. */
public final class Promises {
    private static final long NO = Long.MIN_VALUE;
    private static final int LEAST = Integer.MIN_VALUE, MOST = Integer.MAX_VALUE;
    private static int promise = 0;
    private static int wrong = 0;

    private static void due(String call, long got, long want) {
        if (got != want) {
            wrong++;
            System.out.println("promise " + promise + ": " + call + " answered " + got + ", due is " + want);
        }
    }

    private static LaughingGate begin(int number) {
        promise = number;
        return new LaughingGate();
    }

    private static int city(LaughingGate x, String text) {
        for (char sign : text.toCharArray()) {
            x.feed(sign);
        }
        return x.city();
    }

    private static void bytes(LaughingGate x, int tape, int... items) {
        x.tape(tape, 0, items.length);
        for (int i = 0; i < items.length; i++) {
            x.item(tape, i, items[i]);
        }
    }

    /** One of each of the first kinds, all with the same v and mirth. */
    private static void kinds(LaughingGate x, int from, int to, int v, int mirth) {
        for (int kind = from; kind <= to; kind++) {
            x.one(kind, v, mirth);
        }
    }

    private static void road(LaughingGate x, int... people) {
        due("count(1)", x.count(1), people.length);
        for (int place = 0; place < people.length; place++) {
            due("told(" + (10 + place) + ")", x.told(10 + place), people[place]);
        }
    }

    private static void urges(LaughingGate x, int person, int... urges) {
        for (int j = 0; j < urges.length; j++) {
            due("of(" + person + ", " + (10 + j) + ")", x.of(person, 10 + j), urges[j]);
        }
    }

    private static void trace(LaughingGate x, int... bodies) {
        due("count(7)", x.count(7), bodies.length);
        for (int i = 0; i < bodies.length; i++) {
            due("trace(" + i + ")", x.trace(i), bodies[i]);
        }
        due("trace(" + bodies.length + ")", x.trace(bodies.length), -1);
    }

    private static void newObject() {
        LaughingGate x = begin(1);
        long[] told = {0, 3, 2, 0, 0, 0, -5, 0, 0, 0, -1};
        for (int what = 0; what < told.length; what++) {
            due("told(" + what + ")", x.told(what), told[what]);
        }
        for (int what = 0; what <= 7; what++) {
            due("count(" + what + ")", x.count(what), 0);
        }
        for (int tape = 0; tape < 6; tape++) {
            due("item", x.item(tape, 0, 1), -11);
        }
        due("of", x.of(0, 0), -10001);
        due("undo", x.undo(), -3);
        due("trace", x.trace(0), -1);
        due("constants", LaughingGate.NONE == -1 && LaughingGate.BAD == -2 && LaughingGate.STATE == -3
            && LaughingGate.FULL == -4 && LaughingGate.NO == NO ? 1 : 0, 1);
    }

    private static void one() {
        LaughingGate x = begin(2);
        due("one", x.one(-1, 10, 10), -1);
        due("one", x.one(7, 0, 0), -1);
        due("one", x.one(0, -1, 0), -2);
        due("one", x.one(0, 10, 0), -2);
        due("one", x.one(0, 0, -1), -2);
        due("one", x.one(0, 0, 10), -2);
        due("one", x.one(LEAST, 0, 0), -1);
        due("count", x.count(0), 0);
        for (int person = 0; person < 6; person++) {
            due("one", x.one(person + 1, person + 4, 9 - person), person);
            due("kind", x.of(person, 0), person + 1);
            due("v", x.of(person, 1), person + 4);
            due("mirth", x.of(person, 2), 9 - person);
            due("in", x.of(person, 3), 0);
        }
        road(x, 0, 1, 2, 3, 4, 5);
        due("one", x.one(0, 0, 0), -4);
        due("one", x.one(7, 0, 0), -1);
        due("one", x.one(0, 0, 10), -2);
        due("count", x.count(0), 6);
    }

    private static void of() {
        LaughingGate x = begin(3);
        kinds(x, 0, 5, 3, 7);
        urges(x, 0, 7, 10, 13);
        urges(x, 1, 10, 13, 16);
        urges(x, 2, 3, 5, 6);
        urges(x, 3, 7, 12, 17);
        urges(x, 4, 10, 13, 32);
        urges(x, 5, -1, 1, 2);
        // 1 and 4 laugh first; 0 by 1, 3 by 4, but neither 2 between two nor 5.
        due("laughs", x.of(0, 5), 1);
        due("laughs", x.of(2, 5), 0);
        due("laughs", x.of(3, 5), 1);
        due("laughs", x.of(5, 5), 0);
        due("place", x.of(5, 4), 5);
        x.pass(1);
        due("in", x.of(0, 3), 1);
        due("place", x.of(0, 4), -5);
        due("laughs", x.of(0, 5), 0);
        due("gets", x.of(0, 6), 0);
        due("urge of one who is in", x.of(0, 10), -10001);
        due("place", x.of(1, 4), 0);
        // HOUR 1: nothing less for the widow, whose mirth is 8 now.
        urges(x, 5, 4, 5, 7);
        for (int what : new int[] {-1, 8, 9, 13, LEAST, MOST}) {
            due("of(0, " + what + ")", x.of(0, what), -10001);
        }
        due("of", x.of(6, 0), -10001);
        due("of", x.of(-1, 0), -10001);
        due("of", x.of(LEAST, 10), -10001);

        x = begin(3);
        x.one(6, 3, 7);
        urges(x, 0, 3, 8, 13);
        x.row(0, 0, 9);
        urges(x, 0, 12, 17, 22);
        city(x, "sober 20 p<9");
        urges(x, 0, -8, -3, 2);
        x = begin(3);
        x.one(2, 0, 7);
        city(x, "sober 10 p<9");
        urges(x, 0, -1, 0, 1);

        x = begin(3);
        x.one(0, 0, 0);
        x.down(59);
        due("gets", x.of(0, 6), 60);
        x.down(60);
        due("gets", x.of(0, 6), -5);
        due("mirths of nothing seen", x.of(0, 7), 1023);

        x = begin(3);
        kinds(x, 0, 0, 0, 0);
        x.one(0, 0, 0);
        // The second laughs in the first hour, if its mirth is 5 or more; then it is not in behind two.
        city(x, "tickle 5 p=1");
        x.see(1, 2, true);
        due("mirths", x.of(1, 7), 31);
        x.see(-1, 0, true);
        x.see(1, 2, false);
        due("mirths", x.of(1, 7), 992);
        x.see(0, 0, true);
        due("mirths", x.of(1, 7), 0);
    }

    private static void cheer() {
        LaughingGate x = begin(4);
        x.one(0, 0, 3);
        due("cheer", x.cheer(1, 10), -1);
        due("cheer", x.cheer(-1, 0), -1);
        due("cheer", x.cheer(0, -1), -2);
        due("cheer", x.cheer(0, 10), -2);
        due("cheer", x.cheer(0, 9), 3);
        due("cheer", x.cheer(0, 0), 9);
        due("mirth", x.of(0, 2), 0);
        x.pass(1);
        due("cheer one who is in", x.cheer(0, 5), 0);
        due("mirth", x.of(0, 2), 5);
    }

    private static void swap() {
        LaughingGate x = begin(5);
        kinds(x, 0, 3, 0, 0);
        due("swap", x.swap(0, 3), 3);
        road(x, 3, 1, 2, 0);
        due("swap", x.swap(0, 1), 1);
        road(x, 3, 0, 2, 1);
        due("swap", x.swap(4, 4), -1);
        due("swap", x.swap(0, -1), -1);
        due("swap", x.swap(2, 2), -2);
        x.pass(1);
        due("swap", x.swap(3, 0), -3);
        due("swap", x.swap(0, 3), -3);
        due("swap", x.swap(3, 3), -2);
        due("swap", x.swap(1, 0), 0);
        road(x, 1, 2, 0);
    }

    private static void again() {
        LaughingGate x = begin(6);
        kinds(x, 0, 2, 0, 0);
        due("again", x.again(0), -3);
        due("again", x.again(3), -1);
        due("again", x.again(-1), -1);
        x.pass(2);
        due("again", x.again(0), 1);
        due("again", x.again(1), 2);
        due("again", x.again(1), -3);
        road(x, 2, 0, 1);
        due("in", x.told(9), 0);
    }

    private static void down() {
        LaughingGate x = begin(7);
        due("down", x.down(-1), -2);
        due("down", x.down(100), -2);
        due("down", x.down(99), 0);
        due("down", x.down(0), 99);
        due("down", x.down(2), 0);
        x.one(0, 0, 0);
        x.pass(2);
        due("down", x.told(3), 0);
        due("in", x.told(9), 0);
        x.pass(1);
        due("in", x.told(9), 1);
    }

    private static void row() {
        LaughingGate x = begin(8);
        x.one(6, 0, 0);
        x.one(3, 0, 0);
        due("row", x.row(2, 0, 10), -1);
        due("row", x.row(-1, 0, 0), -1);
        due("row", x.row(0, 4, 10), -1);
        due("row", x.row(0, -1, 0), -1);
        due("row", x.row(1, 0, 10), -2);
        due("row", x.row(0, 0, -1), -2);
        due("row", x.row(1, 0, 9), -3);
        due("row", x.row(0, 3, 9), 0);
        due("row", x.row(0, 3, 8), 9);
        due("row", x.row(0, 1, 4), 0);
        x.down(9);
        x.cheer(0, 0);
        urges(x, 0, -4);
        x.pass(1);
        urges(x, 0, 1);
        x.pass(2);
        urges(x, 0, 7);
        x.pass(2);
        urges(x, 0, 5);
    }

    private static void feed() {
        LaughingGate x = begin(9);
        due("feed", x.feed(-1), -2);
        due("feed", x.feed(128), -2);
        for (int n = 1; n <= 100; n++) {
            due("feed", x.feed(n == 1 ? 0 : 127), n);
        }
        due("feed", x.feed(0), -4);
        due("feed", x.feed(128), -2);
        due("count", x.count(6), 100);
        due("city", x.city(), -10);
        due("count", x.count(6), 0);
    }

    private static void fault(LaughingGate x, String text, int at) {
        due("city of " + text, city(x, text), -10 - at);
        due("count", x.count(6), 0);
    }

    private static void city() {
        LaughingGate x = begin(10);
        fault(x, "", 0);
        fault(x, " near 1", 0);
        fault(x, "near", 4);
        fault(x, "near ", 5);
        fault(x, "near x", 5);
        fault(x, "near 123", 7);
        fault(x, "near 1;", 7);
        fault(x, "near 1;;", 7);
        fault(x, "near  1", 5);
        fault(x, "wine 1", 3);
        fault(x, "tickle 1", 8);
        fault(x, "tickle 1;", 8);
        fault(x, "tickle 1 p", 10);
        fault(x, "tickle 1 p!", 10);
        fault(x, "tickle 1 p=", 11);
        fault(x, "tickle 1 p=123", 13);
        fault(x, "tickle 1 p=1&", 13);
        fault(x, "tickle 1 p=1 ", 12);
        fault(x, "tickle 1 (p=1", 13);
        fault(x, "tickle 1 (p=1;", 13);
        fault(x, "tickle 1 p=1)", 12);
        fault(x, "sober 1 !!!!!p=1", 12);
        fault(x, "sober 1 (!(!(p=1))))", 12);
        fault(x, "sober 1 !(!(!p=1)))", 12);
        fault(x, "sober 1 !(!(p=1)))", 17);
        fault(x, "sober 1 (((p=1)&!!p=1)&!!!!p=1)", 26);
        fault(x, "near 1;near 1;near 1;near 1;near 1;near 1;near 1;near 1;near 1;near 1;", 69);
        due("told", x.told(1), 3);
        due("count", x.count(2), 0);
        due("city", city(x, "near 1;near 1;near 1;near 1;near 1;near 1;near 1;near 1;near 4;wind 9"), 0);
        due("near", x.told(1), 4);
        due("wind", x.told(2), 9);
        due("city", city(x, "wind 07"), 1);
        due("near", x.told(1), 3);
        due("wind", x.told(2), 7);
        fault(x, "near 1;!", 7);
        due("wind", x.told(2), 7);
        due("city", city(x, "sober 1 !!!!p=1|!(!(p=1))&((((p=1))))"), 2);
        due("city", city(x, "near 0;near 99;wind 0"), 3);
        due("near", x.told(1), 99);
        due("wind", x.told(2), 0);
        due("city", city(x, "near 1"), 4);
        due("city", city(x, "near 2"), 5);
        due("city", city(x, "near 3"), -4);
        due("city", x.city(), -4);
        due("count", x.count(6), 6);
        due("count", x.count(2), 6);
        due("near", x.told(1), 2);
        // Texts that come to nothing leave no room less for those behind them.
        x = begin(10);
        x.one(0, 0, 0);
        for (int i = 0; i < 9; i++) {
            fault(x, "sober 9 p=0|p=1|p=2|p=3|p=4|p=0|p=1|p=2|p=3|p=4|p=0|p=1|p=2|p=3|p=4|p=0|p=1|p=2|p=3;near", 88);
        }
        due("city", city(x, "tickle 8 p=0&!p=1&p<3;tickle 30 p>0"), 0);
        urges(x, 0, 8);
    }

    private static void sums(String clauses, int... sums) {
        LaughingGate x = new LaughingGate();
        x.one(0, 4, 2);
        x.one(3, 5, 0);
        x.one(0, 6, 9);
        x.down(99);
        city(x, clauses);
        for (int person = 0; person < 3; person++) {
            due("of(" + person + ", 10) by " + clauses, x.of(person, 10), sums[person]);
        }
    }

    private static void cityHolds() {
        begin(10);
        sums("tickle 9 p=1", 2, 9, 9);
        sums("tickle 9 p<1;sober 1 p>1", 11, 0, 8);
        sums("tickle 9 k=3", 2, 9, 9);
        sums("tickle 9 v>4", 2, 9, 18);
        sums("tickle 9 m<3", 11, 9, 9);
        sums("tickle 9 r=2", 2, 0, 18);
        sums("tickle 9 h=0&!h>0", 11, 9, 18);
        sums("sober 20 h<1", -18, -20, -11);
        sums("tickle 1 p=0|p=1&v=9", 3, 0, 9);
        sums("tickle 1 (p=0|p=1)&v=5", 2, 1, 9);
        sums("tickle 1 !p=0&p<2", 2, 1, 9);
        sums("tickle 1 !(p=0|p=2)", 2, 1, 9);
        sums("tickle 1 !(p=0|!(p<2))", 2, 1, 9);
        sums("tickle 1 p=0|p=1|p=2&p=3|p=2", 3, 1, 10);
        LaughingGate x = begin(10);
        x.one(0, 0, 0);
        x.down(99);
        city(x, "tickle 7 h=3;sober 2 r=0");
        x.pass(13);
        urges(x, 0, 14);
        x.pass(1);
        // It laughed, so that nothing is left to sober.
        urges(x, 0, -2);
    }

    private static void told() {
        LaughingGate x = begin(11);
        x.one(0, 0, 7);
        x.one(1, 9, 1);
        x.one(0, 0, 7);
        x.one(0, 0, 7);
        x.one(0, 0, 6);
        x.one(0, 0, 9);
        // 1 laughs of itself, then 0 and 2, then 3; 4 would want two.
        due("laughs", x.told(5), 15);
        due("spark", x.told(6), 4);
        due("by it", x.told(7), 6);
        due("hush", x.told(8), 2);
        x.down(3);
        due("hush", x.told(8), 2);
        due("hour", x.told(0), 0);
        due("down", x.told(3), 3);
        x.pass(1);
        due("hour", x.told(0), 1);
        due("down", x.told(3), 2);
        due("falls", x.told(4), 1);
        due("told", x.told(-1), -1);
        due("told", x.told(16), -1);
        due("told", x.told(LEAST), -1);
        due("told", x.told(MOST), -1);
        due("place", x.told(15), 5);

        x = begin(11);
        kinds(x, 0, 0, 0, 2);
        x.one(0, 0, 2);
        city(x, "tickle 99 p<9");
        due("hush: none", x.told(8), -5);
        due("spark: the first", x.told(6), 0);
        due("by it", x.told(7), 2);
        x = begin(11);
        // Any of the two alone would wake the third; both must be sober, the third need not.
        x.one(0, 0, 0);
        x.one(0, 0, 5);
        x.one(0, 0, 0);
        x.one(0, 0, 5);
        city(x, "tickle 5 p=1|p=3");
        due("hush", x.told(8), 10);
        city(x, "tickle 5 p=1|p=3;near 2");
        due("hush", x.told(8), 2);
        city(x, "tickle 5 p=1|p=3;near 0");
        due("hush", x.told(8), 0);
        due("spark", x.told(6), 0);
        due("by it", x.told(7), 3);
        x.pass(5);
        due("in", x.told(9), 4);
        due("spark: nobody", x.told(6), -5);
        due("by it: nobody", x.told(7), 0);
        due("told", x.told(10), -1);
        x = begin(11);
        x.one(0, 0, 0);
        x.one(0, 0, 0);
        due("spark, though nobody laughs", x.told(6), 0);
        due("by it", x.told(7), 0);
        x.pass(1);
        due("spark", x.told(6), 1);
        x = begin(11);
        for (int person = 0; person < 6; person++) {
            x.one(0, 0, 5);
        }
        city(x, "tickle 5 p<9;near 9");
        due("hush without the first, who is in by then", x.told(8), 62);
        x.down(5);
        due("hush", x.told(8), 63);
    }

    private static void pass() {
        LaughingGate x = begin(12);
        x.one(0, 0, 9);
        x.one(1, 5, 5);
        x.one(0, 0, 6);
        due("pass", x.pass(-1), -2);
        due("pass", x.pass(61), -2);
        due("pass", x.pass(0), 0);
        due("pass", x.pass(1), 1);
        due("down", x.told(3), 2);
        due("falls", x.told(4), 1);
        due("in", x.told(9), 1);
        due("mirth of one in", x.of(0, 2), 9);
        due("mirth of who laughed", x.of(1, 2), 0);
        due("mirth", x.of(2, 2), 7);
        due("pass", x.pass(2), 3);
        due("down", x.told(3), 0);
        due("in", x.told(9), 1);
        due("pass", x.pass(1), 4);
        due("in", x.told(9), 2);
        due("mirth", x.of(2, 2), 9);
        due("pass", x.pass(60), 64);
        due("in", x.told(9), 3);

        x = begin(12);
        kinds(x, 0, 1, 0, 0);
        city(x, "tickle 99 p<9;wind 1");
        for (int i = 0; i < 166; i++) {
            x.pass(60);
        }
        due("hour", x.told(0), 9960);
        due("pass", x.pass(40), -3);
        due("pass", x.pass(61), -2);
        due("pass", x.pass(39), 9999);
        due("pass", x.pass(1), -3);
        due("pass", x.pass(0), 9999);
        due("falls", x.told(4), 9999);
        // What is asked goes on beyond.
        due("on", x.on(5, 1), 10004);
        due("hush", x.told(8), -5);
        due("odds", x.odds(1, 0), 1);
        x.plan(0, 0);
        due("ends", x.ends(1), 10000);
        due("falls", x.told(4), 9999);
    }

    private static void on() {
        LaughingGate x = begin(13);
        x.one(0, 0, 9);
        x.one(1, 5, 5);
        x.one(0, 0, 6);
        due("on", x.on(0, 12), 6);
        due("on", x.on(1, 0), 2);
        due("on", x.on(1, 1), 1);
        due("on", x.on(1, 2), 1);
        due("on", x.on(1, 11), 0);
        due("on", x.on(3, 0), 0);
        due("on", x.on(4, 2), 2);
        due("on", x.on(4, 12), 9);
        due("on", x.on(60, 2), 3);
        due("on", x.on(61, 2), -2);
        due("on", x.on(-1, 2), -2);
        due("on", x.on(61, 3), -1);
        due("on", x.on(0, 13), -1);
        due("on", x.on(0, 9), -1);
        due("on", x.on(0, -1), -1);
        due("on", x.on(0, MOST), -1);
        due("hour", x.told(0), 0);
        due("in", x.told(9), 0);
        due("mirth", x.of(1, 2), 5);
    }

    private static void turn() {
        LaughingGate x = begin(14);
        kinds(x, 0, 0, 0, 2);
        x.one(0, 0, 2);
        x.one(0, 0, 2);
        city(x, "tickle 8 p=1;near 1;wind 9");
        due("turn", x.turn(0), -2);
        due("turn", x.turn(13), -2);
        due("turn", x.turn(1), -5);
        due("turn", x.turn(2), 1);
        due("turn", x.turn(12), 1);
        road(x, 0, 1, 2);
        x.swap(0, 1);
        due("turn", x.turn(2), -5);
        x = begin(14);
        // With one more ahead, 12 and others serve; 01 would not.
        kinds(x, 0, 3, 0, 0);
        city(x, "tickle 20 r=0&h=0&!p=3;near 1;wind 9");
        due("turn", x.turn(2), 13);
        x.pass(1);
        due("turn", x.turn(9), -5);
        // Nine hours on the gate is up, and HOUR modulo 10 is 0 again.
        due("turn", x.turn(12), 23);
    }

    private static void see() {
        LaughingGate x = begin(15);
        kinds(x, 0, 1, 0, 0);
        due("see", x.see(2, 13, true), -1);
        due("see", x.see(-2, 0, true), -1);
        due("see", x.see(0, 13, true), -2);
        due("see", x.see(0, -1, true), -2);
        due("see", x.see(0, 0, false), 1);
        due("see", x.see(1, 12, true), 2);
        due("see", x.see(1, 2, true), 3);
        due("see", x.see(1, 1, false), 4);
        due("see", x.see(0, 1, true), 5);
        due("mirths", x.of(0, 7), 1023);
        due("see", x.see(0, 1, true), -4);
        due("see", x.see(0, 13, true), -2);
        due("count", x.count(3), 5);
        due("see", x.see(-1, 99, true), 0);
        due("count", x.count(3), 0);
        // The hours are from now, whenever that is.
        x.see(0, 1, true);
        x.see(0, 0, false);
        x.pass(1);
        due("mirths", x.of(0, 7), 0);
    }

    private static void can() {
        LaughingGate x = begin(16);
        x.one(0, 0, 0);
        x.one(1, 9, 4);
        city(x, "tickle 1 p=1");
        due("can", x.can(1, 0), 10);
        due("can", x.can(1, 1), 0);
        x.see(1, 2, true);
        due("can", x.can(1, 0), 5);
        due("can", x.can(1, 1), 0);
        x.see(-1, 0, false);
        x.see(1, 2, false);
        due("can", x.can(1, 0), 5);
        due("can", x.can(1, 1), 5);
        due("v", x.of(1, 1), 9);
        x.cheer(1, 0);
        due("can", x.can(1, 0), 1);
        due("can", x.can(1, 1), 9);
        x.see(0, 0, true);
        due("can", x.can(1, 0), 0);
        due("can", x.can(1, 1), -5);
        due("can", x.can(2, 0), -1);
        due("can", x.can(-1, 0), -1);
        due("can", x.can(0, 2), -1);
        due("can", x.can(0, -1), -1);
    }

    private static void odds() {
        LaughingGate x = begin(17);
        due("odds of nobody", x.odds(1, 0), NO);
        kinds(x, 0, 0, 0, 0);
        x.one(0, 0, 0);
        x.one(0, 0, 0);
        x.one(0, 0, 0);
        city(x, "tickle 1 p=2|p=3");
        due("odds", x.odds(1, 0), 1);
        due("odds", x.odds(1, 1), 2);
        city(x, "tickle 1 p=3");
        due("odds", x.odds(1, 0), 1);
        due("odds", x.odds(1, 1), 4);
        city(x, "tickle 0 p=3");
        due("odds", x.odds(20, 0), 0);
        due("odds", x.odds(20, 1), 1);
        due("odds", x.odds(0, 0), NO);
        due("odds", x.odds(21, 0), NO);
        due("odds", x.odds(1, -1), NO);
        due("odds", x.odds(1, 2), NO);
        due("mirth", x.of(0, 2), 0);
        x.pass(4);
        due("odds of nobody", x.odds(1, 1), NO);
    }

    private static void mean() {
        LaughingGate x = begin(18);
        due("mean of nobody", x.mean(0), NO);
        due("mean of nobody", x.mean(1), NO);
        x.one(0, 0, 9);
        x.one(0, 0, 2);
        x.one(0, 0, 1);
        due("mean", x.mean(0), 4);
        due("mean", x.mean(1), 1);
        due("mean", x.mean(2), NO);
        due("mean", x.mean(-1), NO);
        x.pass(1);
        due("mean", x.mean(0), 5);
        due("mean", x.mean(1), 2);
        x.cheer(1, 0);
        x.cheer(2, 0);
        due("mean", x.mean(0), 0);
        due("mean", x.mean(1), 1);
        x.pass(2);
        due("mean of nobody", x.mean(0), NO);
    }

    private static void plan() {
        LaughingGate x = begin(19);
        due("plan", x.plan(4, 0), -1);
        due("plan", x.plan(-2, 0), -1);
        due("plan", x.plan(1, 0), -1);
        due("plan", x.plan(2, -1), -1);
        due("plan", x.plan(0, -1), 1);
        due("plan", x.plan(3, 99), 2);
        x.one(0, 0, 0);
        due("plan", x.plan(1, 0), 3);
        due("plan", x.plan(2, 1), -1);
        for (int n = 4; n <= 10; n++) {
            due("plan", x.plan(2, 0), n);
        }
        due("plan", x.plan(0, 0), -4);
        due("plan", x.plan(4, 0), -1);
        due("plan", x.plan(2, 1), -1);
        due("count", x.count(4), 10);
        due("plan", x.plan(-1, 7), 0);
        due("count", x.count(4), 0);
    }

    private static void ends() {
        LaughingGate x = begin(20);
        kinds(x, 0, 0, 0, 5);
        x.one(0, 0, 5);
        x.one(0, 0, 5);
        city(x, "tickle 1 p=1");
        x.down(7);
        due("ends", x.ends(2), -1);
        due("ends", x.ends(-1), -1);
        due("ends", x.ends(0), 0);
        x.plan(0, 0);
        due("ends", x.ends(0), 0);
        x.plan(3, 0);
        x.plan(0, 0);
        due("ends", x.ends(0), 1);
        due("ends", x.ends(1), 0);
        x.plan(-1, 0);
        x.plan(2, 1);
        x.plan(0, 0);
        due("ends", x.ends(1), 1);
        due("ends", x.ends(0), 0);
        x.plan(-1, 0);
        x.plan(2, 1);
        x.plan(1, 1);
        x.plan(0, 0);
        due("ends", x.ends(1), 0);
        due("hour", x.told(0), 0);
        due("down", x.told(3), 7);
        due("mirth", x.of(1, 2), 5);
    }

    private static void bookAndLooked() {
        LaughingGate x = begin(21);
        x.one(0, 0, 5);
        x.one(0, 0, 6);
        due("book", x.book(2, 10), -1);
        due("book", x.book(-2, 0), -1);
        due("book", x.book(0, 10), -2);
        due("book", x.book(0, -1), -2);
        promise = 22;
        due("looked", x.looked(), -5);
        promise = 21;
        due("book", x.book(0, 5), 1);
        due("book", x.book(1, 6), 2);
        promise = 22;
        due("looked", x.looked(), -5);
        x.cheer(1, 7);
        due("looked", x.looked(), 1);
        x.cheer(0, 7);
        due("looked", x.looked(), 0);
        promise = 21;
        for (int n = 3; n <= 8; n++) {
            due("book", x.book(0, 0), n);
        }
        due("book", x.book(0, 0), -4);
        due("book", x.book(0, 10), -2);
        due("count", x.count(5), 8);
        due("book", x.book(-1, 99), 0);
        due("count", x.count(5), 0);
        promise = 22;
        due("looked", x.looked(), -5);
    }

    private static void judge() {
        LaughingGate x = begin(23);
        due("judge", x.judge(-1, 0), -1);
        due("judge", x.judge(6, 0), -1);
        due("judge of nothing, nobody there", x.judge(0, -9), -5);
        x.tape(5, 1, 3);
        due("judge", x.judge(5, 0), -12);
        kinds(x, 0, 2, 0, 0);
        x.swap(0, 1);
        due("judge of nothing", x.judge(0, 0), 100);
        due("judge of nothing", x.judge(0, -1), 100);
        bytes(x, 0, 7, 1, 0, 2, 5);
        due("judge", x.judge(0, 1), -5);
        due("judge", x.judge(0, 0), 0);
        due("judge", x.judge(0, 2), 0);
        due("judge", x.judge(0, -1), 100);
        due("judge", x.judge(0, LEAST), 100);
        due("judge", x.judge(0, 5), 100);
        due("judge", x.judge(0, MOST), 100);
        bytes(x, 1, 1, 0);
        due("judge", x.judge(1, 0), 102);
        bytes(x, 1, 1, 0, 2);
        due("judge", x.judge(1, 0), -5);
        bytes(x, 1, 1, 0, 3);
        due("judge", x.judge(1, 0), 2);
        bytes(x, 1, 1, 1);
        due("judge", x.judge(1, 0), 1);
        bytes(x, 1, 3, 3, 3, 1);
        due("judge", x.judge(1, 3), 101);
        for (int sort = 1; sort <= 4; sort++) {
            x.tape(2, sort, 0);
            due("judge", x.judge(2, 0), -12);
        }
        x.pass(3);
        due("judge, nobody there", x.judge(1, 99), -5);
        due("judge", x.judge(2, 0), -12);
    }

    private static void imageAndUndo() {
        LaughingGate x = begin(25);
        due("undo", x.undo(), -3);
        x.one(6, 1, 2);
        x.one(1, 3, 4);
        x.row(0, 2, 7);
        x.swap(0, 1);
        x.down(5);
        x.see(0, 0, false);
        x.plan(0, 0);
        x.book(0, 2);
        x.act(0, 0, 1);
        promise = 24;
        due("image", x.image(), 2);
        x.cheer(0, 9);
        x.row(0, 2, 1);
        x.one(6, 5, 5);
        x.row(2, 1, 9);
        x.down(0);
        x.see(0, 1, true);
        x.plan(3, 0);
        x.book(-1, 0);
        city(x, "near 5;tickle 99 p<9");
        x.pass(3);
        x.feed(65);
        bytes(x, 0, 1, 2);
        x.act(1, 1, 1);
        due("falls", x.told(4), 3);
        promise = 25;
        due("undo", x.undo(), 2);
        due("mirth", x.of(0, 2), 2);
        due("mirth", x.of(1, 2), 4);
        due("in", x.of(1, 3), 0);
        road(x, 1, 0);
        due("hour", x.told(0), 0);
        due("near", x.told(1), 3);
        due("down", x.told(3), 5);
        due("falls", x.told(4), 0);
        due("seen", x.count(3), 1);
        due("mirths", x.of(0, 7), 1023);
        due("planned", x.count(4), 1);
        due("booked", x.count(5), 1);
        due("looked", x.looked(), -5);
        due("row", x.row(0, 2, 7), 7);
        // These are no part of it.
        due("cities", x.count(2), 1);
        due("text", x.count(6), 1);
        due("tape", x.read(0, 1), 2);
        trace(x, 20, 11, 10);
        due("of", x.of(2, 0), -10001);
        due("one", x.one(6, 0, 0), 2);
        due("row of the new one", x.row(2, 1, 0), 0);
        due("undo", x.undo(), 2);
        x.city();
        due("city", city(x, "near 6"), 1);
        due("image", x.image(), 2);
        due("city", city(x, "near 7"), 2);
        due("undo", x.undo(), 2);
        due("near", x.told(1), 6);
        due("city", city(x, "near 8"), 3);
        due("near", x.told(1), 8);
        x.undo();
        due("near", x.told(1), 6);

        x = begin(25);
        due("image", x.image(), 0);
        x.one(0, 0, 0);
        due("undo", x.undo(), 0);
        due("count", x.count(1), 0);
    }

    private static void act(LaughingGate x, int person, int act, int due, int... bodies) {
        promise = 26;
        due("act(" + person + ", " + act + ", 10)", x.act(person, act, 10), due);
        promise = 27;
        trace(x, bodies);
    }

    private static void acts() {
        LaughingGate x = begin(26);
        for (int kind = 0; kind < 6; kind++) {
            x.one(kind, kind + 3, 0);
        }
        act(x, 0, 0, 10, 10);
        act(x, 0, 1, 7, 11, 10);
        act(x, 0, 2, 14, 12, 11, 10);
        act(x, 1, 0, 11, 10);
        act(x, 1, 1, 1, 20, 11, 10);
        act(x, 1, 2, 2, 12, 20, 11, 10);
        act(x, 2, 0, 32, 30, 10);
        act(x, 2, 1, 27, 11, 30, 10);
        act(x, 2, 2, 54, 12, 11, 30, 10);
        act(x, 3, 0, 13, 10);
        act(x, 3, 1, 7, 11, 10);
        act(x, 3, 2, 12, 40, 12, 11, 10, 11, 10);
        act(x, 4, 0, -14, 50, 10);
        act(x, 4, 1, -20, 51, 20, 11, 50, 10);
        act(x, 4, 2, -40, 12, 51, 20, 11, 50, 10);
        act(x, 5, 0, 35, 30, 10);
        act(x, 5, 1, 27, 11, 30, 10);
        act(x, 5, 2, 24, 60, 12, 11, 30, 10);
        act(x, 5, 3, 0);
        x.act(5, 2, 0);
        act(x, 6, 0, 0);
        x.act(5, 2, 0);
        act(x, -1, 2, 0);
        x.act(5, 2, 0);
        act(x, 5, -1, 0);
        promise = 26;
        due("wrapping", x.act(2, 0, MOST), MOST);
        due("wrapping", x.act(1, 0, MOST), LEAST);
        promise = 27;
        due("trace", x.trace(-1), -1);
        due("trace", x.trace(LEAST), -1);
        due("trace", x.trace(MOST), -1);
        x = begin(26);
        x.one(6, 5, 0);
        act(x, 0, 0, 15, 71, 10);
        act(x, 0, 1, 12, 70, 11, 71, 10, 10);
        act(x, 0, 2, 25, 40, 12, 70, 11, 71, 10, 10, 70, 11, 71, 10, 10);
    }

    private static void taken() {
        LaughingGate x = begin(28);
        due("taken", x.taken(0, 7), -2);
        due("taken", x.taken(0, -1), -2);
        due("taken", x.taken(0, 0), -11);
        due("taken", x.taken(-1, 6), -11);
        String[] under = {"0", "01", "02", "03", "014", "025", "036"};
        for (int kind = 0; kind < 7; kind++) {
            x = begin(28);
            x.one(kind, 0, 0);
            for (int k = 0; k < 7; k++) {
                due("taken", x.taken(0, k), under[kind].indexOf('0' + k) >= 0 ? kind : -12);
            }
            due("taken", x.taken(0, LEAST), -2);
        }
    }

    private static void count() {
        LaughingGate x = begin(29);
        kinds(x, 0, 2, 0, 0);
        x.pass(1);
        city(x, "near 1");
        city(x, "near 1");
        x.see(0, 0, true);
        x.plan(0, 0);
        x.plan(0, 0);
        x.book(0, 0);
        x.feed(1);
        x.act(1, 2, 0);
        int[] due = {3, 2, 2, 1, 2, 1, 1, 4};
        for (int what = 0; what < 8; what++) {
            due("count(" + what + ")", x.count(what), due[what]);
        }
        due("count", x.count(-1), -2);
        due("count", x.count(8), -2);
        due("count", x.count(LEAST), -2);
    }

    private static void tapes() {
        LaughingGate x = begin(30);
        due("tape", x.tape(-1, 9, 99), -1);
        due("tape", x.tape(6, 0, 0), -1);
        due("tape", x.tape(0, 5, -1), -2);
        due("tape", x.tape(0, -2, 0), -2);
        due("tape", x.tape(0, 0, 61), -2);
        due("tape", x.tape(0, 0, -1), -14);
        due("tape", x.tape(0, 4, LEAST), -14);
        due("read", x.read(0, 0), NO);
        due("tape", x.tape(0, 0, 60), 1);
        due("read", x.read(0, 59), 0);
        due("read", x.read(0, 60), NO);
        x.item(0, 59, 5);
        due("tape", x.tape(0, 3, 60), 1);
        due("read", x.read(0, 59), 0);
        due("tape", x.tape(0, -1, -7), 1);
        due("read", x.read(0, 0), NO);
        due("tape", x.tape(0, 2, 0), 1);
        due("item", x.item(0, 0, 0), -13);

        x = begin(31);
        for (int sort = 0; sort <= 4; sort++) {
            x.tape(sort, sort, 2);
        }
        long[] wide = {200, 70000, 1L << 31, Long.MAX_VALUE, 256};
        long[] kept = {-56, 4464, LEAST, Long.MAX_VALUE, 1};
        for (int sort = 0; sort <= 4; sort++) {
            due("item", x.item(sort, 1, wide[sort]), 1);
            due("read", x.read(sort, 1), kept[sort]);
            due("read", x.read(sort, 0), 0);
            due("item", x.item(sort, 1, 0), 1);
            due("read", x.read(sort, 1), 0);
        }
        due("item", x.item(6, 0, 0), -1);
        due("item", x.item(-1, 0, 0), -1);
        due("item", x.item(5, 9, 0), -11);
        due("item", x.item(0, 2, 0), -13);
        due("item", x.item(0, -1, 0), -13);
        promise = 32;
        due("read", x.read(-1, 0), NO);
        due("read", x.read(6, 0), NO);
        due("read", x.read(5, 0), NO);
        due("read", x.read(0, 2), NO);
        due("read", x.read(0, -1), NO);
        due("read", x.read(0, LEAST), NO);
        due("read", x.read(0, MOST), NO);
        x.item(3, 0, -1);
        due("read", x.read(3, 0), -1);
    }

    private static void row(LaughingGate x, int tape, int... items) {
        for (int i = 0; i < items.length; i++) {
            due("read(" + tape + ", " + i + ")", x.read(tape, i), items[i]);
        }
        due("read", x.read(tape, items.length), NO);
    }

    private static void shift() {
        LaughingGate x = begin(33);
        bytes(x, 0, 1, 2, 3, 4, 5);
        bytes(x, 1, 9, 9, 9);
        x.tape(2, 1, 5);
        due("shift", x.shift(6, 0, 3, 0, 0), -1);
        due("shift", x.shift(0, 0, -1, 0, 0), -1);
        due("shift", x.shift(0, -1, 3, 0, 0), -11);
        due("shift", x.shift(3, 0, 0, 0, 0), -11);
        due("shift", x.shift(0, -1, 2, 0, 0), -12);
        for (int[] out : new int[][] {{-1, 0, 1}, {0, -1, 1}, {0, 0, -1}, {0, 0, 4}, {3, 0, 3}, {0, 1, 3}, {6, 0, 0},
            {0, 4, 0}, {MOST, 0, 1}, {0, MOST, 1}, {0, 0, MOST}, {LEAST, 0, 0}, {0, 0, LEAST}, {1, 1, MOST}}) {
            due("shift", x.shift(0, out[0], 1, out[1], out[2]), -13);
        }
        row(x, 1, 9, 9, 9);
        due("shift", x.shift(0, 5, 1, 3, 0), 0);
        due("shift", x.shift(0, 3, 1, 1, 2), 2);
        row(x, 1, 9, 4, 5);
        due("shift", x.shift(0, 0, 0, 1, 4), 4);
        row(x, 0, 1, 1, 2, 3, 4);
        due("shift", x.shift(0, 2, 0, 0, 3), 3);
        row(x, 0, 2, 3, 4, 3, 4);
        x.tape(4, 4, 2);
        x.tape(5, 4, 2);
        x.item(4, 0, 1);
        due("shift", x.shift(4, 0, 5, 1, 1), 1);
        row(x, 5, 0, 1);
        due("shift", x.shift(5, 0, 4, 0, 2), 2);
        row(x, 4, 0, 1);
        due("shift", x.shift(5, 0, 6, 0, 2), -1);
        due("shift", x.shift(5, 0, 7, 0, 2), -1);
    }

    public static void main(String[] args) {
        newObject();
        one();
        of();
        cheer();
        swap();
        again();
        down();
        row();
        feed();
        city();
        cityHolds();
        told();
        pass();
        on();
        turn();
        see();
        can();
        odds();
        mean();
        plan();
        ends();
        bookAndLooked();
        judge();
        imageAndUndo();
        acts();
        taken();
        count();
        tapes();
        shift();
        System.out.println(wrong == 0 ? "all promises hold" : wrong + " answers are not as due");
        if (wrong != 0) {
            System.exit(1);
        }
    }
}
