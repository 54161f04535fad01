/** The boundary cases that each promise's own words name, also those of numbers far beyond. */
final class EdgesOfPromises extends Sentences {
    static void all() {
        newObject();
        one();
        of();
        cheerAndSwap();
        againAndDown();
        row();
        feedAndCity();
        told();
        pass();
        onAndTurn();
        see();
        can();
        oddsAndMean();
        plan();
        endsAndBook();
        judge();
        imageAndUndo();
        acts();
        taken();
        count();
        tape();
        item();
        read();
        shift();
    }

    private static void newObject() {
        in("Promise 1");
        edge("Nobody, no CITY.", x -> {
            due("people", x.count(0), 0);
            due("on the road", x.count(1), 0);
            due("cities", x.count(2), 0);
            due("seen", x.count(3), 0);
            due("planned", x.count(4), 0);
            due("booked", x.count(5), 0);
            due("bytes", x.count(6), 0);
            due("bodies", x.count(7), 0);
            due("near", x.told(1), 3);
            due("wind", x.told(2), 2);
            due("who is at the gate", x.told(10), NONE);
            due("the first", x.of(0, 0), NO_NUMBER);
            due("the first city", city(x, "near 1"), 0);
        });
    }

    private static void one() {
        in("Promise 2");
        edge("One more: its number.", x -> {
            due("the first", x.one(6, 9, 9), 0);
            due("the second", x.one(0, 0, 0), 1);
            x.pass(2);
            due("though all are in", x.one(3, 1, 2), 2);
            due("how many", x.count(0), 3);
        });
        edge("NONE: kind;", x -> {
            due("below", x.one(-1, 0, 0), NONE);
            due("above", x.one(7, 0, 0), NONE);
            due("far below", x.one(LEAST, 0, 0), NONE);
            due("far above", x.one(MOST, 0, 0), NONE);
            due("the least", x.one(0, 0, 0), 0);
            due("the greatest", x.one(6, 0, 0), 1);
        });
        edge("BAD: v, mirth;", x -> {
            due("v below", x.one(0, -1, 0), BAD);
            due("v above", x.one(0, 10, 0), BAD);
            due("v far below", x.one(0, LEAST, 0), BAD);
            due("v far above", x.one(0, MOST, 0), BAD);
            due("mirth below", x.one(0, 0, -1), BAD);
            due("mirth above", x.one(0, 0, 10), BAD);
            due("mirth far below", x.one(0, 0, LEAST), BAD);
            due("mirth far above", x.one(0, 0, MOST), BAD);
            due("the least", x.one(0, 0, 0), 0);
            due("the greatest", x.one(0, 9, 9), 1);
        });
        edge("FULL: 6.", x -> {
            crowd(x, 5);
            due("the sixth", x.one(0, 0, 0), 5);
            due("a seventh", x.one(0, 0, 0), FULL);
            x.pass(60);
            due("a seventh, though all are in", x.one(0, 0, 0), FULL);
        });
    }

    private static void of() {
        in("Promise 3");
        edge("Of one what 0 KIND, 1 v, 2 MIRTH, 3 whether it is IN,", x -> {
            x.one(6, 9, 8);
            x.one(0, 0, 0);
            int[] first = {6, 9, 8, 0};
            for (int what = 0; what < 4; what++) {
                due("what " + what, x.of(0, what), first[what]);
                due("what " + what, x.of(1, what), 0);
            }
            x.pass(1);
            due("in", x.of(0, 3), 1);
            due("not in", x.of(1, 3), 0);
        });
        edge("4 its place on THE ROAD (-5: it is IN),", x -> {
            crowd(x, 6);
            due("the first", x.of(0, 4), 0);
            due("the last", x.of(5, 4), 5);
            x.pass(1);
            due("in", x.of(0, 4), LACKING);
            due("one on", x.of(5, 4), 4);
        });
        edge("5 whether it LAUGHS as all is now,", x -> {
            x.one(0, 0, 9);
            laugher(x);
            due("by 12", x.of(0, 5), 1);
            due("of itself", x.of(1, 5), 1);
            x.cheer(1, 0);
            due("9", x.of(1, 5), 0);
            due("9 and nobody near", x.of(0, 5), 0);
            x.pass(2);
            x.cheer(1, 9);
            due("in", x.of(1, 5), 0);
        });
        edge("6 GETS (-5),", x -> {
            crowd(x, 2);
            due("the first", x.of(0, 6), 1);
            due("the second", x.of(1, 6), 2);
            x.down(99);
            due("not by then", x.of(0, 6), LACKING);
            x.down(0);
            x.pass(1);
            due("in", x.of(0, 6), 0);
        });
        edge("7 MIRTHS (bits),", x -> {
            crowd(x, 1);
            due("nothing seen", x.of(0, 7), 1023);
            x.see(0, 0, true);
            due("never so", x.of(0, 7), 0);
            x.pass(1);
            due("of one who is in", x.of(0, 7), 1023);
        });
        edge("10 and j URGE, j of those next to it laughing (0 .. 2; not of one who is IN).", x -> {
            x.one(0, 0, 2);
            due("j below", x.of(0, 9), NO_NUMBER);
            due("none, though nobody is next to it", x.of(0, 10), 2);
            due("one", x.of(0, 11), 5);
            due("two", x.of(0, 12), 8);
            due("j above", x.of(0, 13), NO_NUMBER);
            x.pass(1);
            due("in", x.of(0, 10), NO_NUMBER);
            due("in", x.of(0, 12), NO_NUMBER);
            x.again(0);
            due("no more", x.of(0, 10), 2);
        });
        edge("-10001: NONE.", x -> {
            due("nobody", x.of(0, 0), -10001);
            crowd(x, 1);
            due("person below", x.of(-1, 0), -10001);
            due("person above", x.of(1, 0), -10001);
            due("person far below", x.of(LEAST, 0), -10001);
            due("person far above", x.of(MOST, 0), -10001);
            for (int what : new int[] {-1, 8, 9, 13, LEAST, MOST}) {
                due("what " + what, x.of(0, what), -10001);
            }
        });
    }

    private static void cheerAndSwap() {
        in("Promise 4");
        edge("MIRTH of one becomes n (0 .. 9): what it was.", x -> {
            x.one(0, 0, 5);
            due("the greatest", x.cheer(0, 9), 5);
            due("the least", x.cheer(0, 0), 9);
            due("the same", x.cheer(0, 0), 0);
            due("mirth", x.of(0, 2), 0);
            x.pass(1);
            due("of one who is in", x.cheer(0, 7), 0);
            due("mirth", x.of(0, 2), 7);
        });
        edge("NONE;", x -> {
            due("nobody", x.cheer(0, 0), NONE);
            crowd(x, 1);
            due("below", x.cheer(-1, 0), NONE);
            due("above", x.cheer(1, 0), NONE);
            due("far below", x.cheer(LEAST, 0), NONE);
            due("far above", x.cheer(MOST, 0), NONE);
        });
        edge("BAD.", x -> {
            crowd(x, 1);
            due("below", x.cheer(0, -1), BAD);
            due("above", x.cheer(0, 10), BAD);
            due("far below", x.cheer(0, LEAST), BAD);
            due("far above", x.cheer(0, MOST), BAD);
        });
        in("Promise 5");
        edge("Two on THE ROAD change their places: where the first is then.", x -> {
            crowd(x, 6);
            due("the ends", x.swap(0, 5), 5);
            road(x, 5, 1, 2, 3, 4, 0);
            due("the ends", x.swap(0, 5), 0);
            due("neighbours", x.swap(3, 2), 2);
            road(x, 0, 1, 3, 2, 4, 5);
        });
        edge("NONE;", x -> {
            crowd(x, 2);
            due("the first below", x.swap(-1, 0), NONE);
            due("the first above", x.swap(2, 0), NONE);
            due("the other below", x.swap(0, -1), NONE);
            due("the other above", x.swap(0, 2), NONE);
            due("far", x.swap(LEAST, MOST), NONE);
        });
        edge("BAD: one is both;", x -> {
            crowd(x, 2);
            due("on the road", x.swap(1, 1), BAD);
            x.pass(1);
            due("in", x.swap(0, 0), BAD);
        });
        edge("STATE: one of them is IN.", x -> {
            crowd(x, 3);
            x.pass(1);
            due("the first", x.swap(0, 1), STATE);
            due("the other", x.swap(1, 0), STATE);
            due("none", x.swap(1, 2), 1);
            x.pass(1);
            due("both", x.swap(0, 2), STATE);
        });
    }

    private static void againAndDown() {
        in("Promise 6");
        edge("One who is IN is at the end of THE ROAD again: its place.", x -> {
            crowd(x, 6);
            x.pass(6);
            due("on an empty road", x.again(5), 0);
            due("behind it", x.again(0), 1);
            road(x, 5, 0);
            due("in", x.of(0, 3), 0);
            for (int person = 1; person < 5; person++) {
                due("again", x.again(person), person + 1);
            }
            due("how many are in", x.told(9), 0);
        });
        edge("NONE;", x -> {
            due("nobody", x.again(0), NONE);
            crowd(x, 1);
            due("below", x.again(-1), NONE);
            due("above", x.again(1), NONE);
            due("far below", x.again(LEAST), NONE);
            due("far above", x.again(MOST), NONE);
        });
        edge("STATE: it is not IN.", x -> {
            crowd(x, 1);
            due("never in", x.again(0), STATE);
            x.pass(1);
            due("in", x.again(0), 0);
            due("no more", x.again(0), STATE);
        });
        in("Promise 7");
        edge("DOWN becomes n (0 .. 99): what it was.", x -> {
            due("the greatest", x.down(99), 0);
            due("the least", x.down(0), 99);
            due("the same", x.down(0), 0);
            x.down(1);
            due("down", x.told(3), 1);
        });
        edge("BAD.", x -> {
            due("below", x.down(-1), BAD);
            due("above", x.down(100), BAD);
            due("far below", x.down(LEAST), BAD);
            due("far above", x.down(MOST), BAD);
        });
    }

    private static void row() {
        in("Promise 8");
        edge("The ROW of a TOLD one becomes n (0 .. 9) for HOURS modulo 4 being part: what it was.", x -> {
            x.one(6, 0, 0);
            x.one(6, 0, 0);
            for (int part = 0; part < 4; part++) {
                due("the greatest", x.row(0, part, 9), 0);
                due("another one's", x.row(1, part, part), 0);
            }
            for (int part = 0; part < 4; part++) {
                due("the least", x.row(0, part, 0), 9);
                due("another one's", x.row(1, part, 5), part);
            }
            x.pass(1);
            due("of one who is in", x.row(0, 0, 3), 0);
            due("of one who is in", x.row(0, 0, 4), 3);
        });
        edge("NONE: person, part;", x -> {
            x.one(6, 0, 0);
            due("person below", x.row(-1, 0, 0), NONE);
            due("person above", x.row(1, 0, 0), NONE);
            due("person far below", x.row(LEAST, 0, 0), NONE);
            due("person far above", x.row(MOST, 0, 0), NONE);
            due("part below", x.row(0, -1, 0), NONE);
            due("part above", x.row(0, 4, 0), NONE);
            due("part far below", x.row(0, LEAST, 0), NONE);
            due("part far above", x.row(0, MOST, 0), NONE);
        });
        edge("BAD;", x -> {
            x.one(6, 0, 0);
            due("below", x.row(0, 0, -1), BAD);
            due("above", x.row(0, 0, 10), BAD);
            due("far below", x.row(0, 0, LEAST), BAD);
            due("far above", x.row(0, 0, MOST), BAD);
        });
        edge("STATE: another KIND.", x -> {
            for (int kind = 0; kind < 6; kind++) {
                due("one", x.one(kind, 0, 0), kind);
                due("row of kind " + kind, x.row(kind, 0, 1), STATE);
            }
        });
    }

    private static void feedAndCity() {
        in("Promise 9");
        edge("A sign (0 .. 127) comes behind THE TEXT's: how many it has.", x -> {
            due("the least", x.feed(0), 1);
            due("the greatest", x.feed(127), 2);
            x.city();
            due("behind none", x.feed('n'), 1);
            for (char sign : "ear 4".toCharArray()) {
                x.feed(sign);
            }
            due("in their order", x.city(), 0);
            due("near", x.told(1), 4);
        });
        edge("BAD;", x -> {
            due("below", x.feed(-1), BAD);
            due("above", x.feed(128), BAD);
            due("far below", x.feed(LEAST), BAD);
            due("far above", x.feed(MOST), BAD);
            due("a letter and 256", x.feed('n' + 256), BAD);
            due("how many", x.count(6), 0);
        });
        edge("FULL.", x -> {
            for (int n = 1; n <= 100; n++) {
                due("feed", x.feed('n'), n);
            }
            due("one more", x.feed('n'), FULL);
            due("how many", x.count(6), 100);
            x.city();
            due("behind a city", x.feed('n'), 1);
        });
        in("Promise 10");
        edge("THE TEXT, which is empty then (by a FAULT, too), is a CITY, and holds: its number.", x -> {
            due("the first", city(x, "near 1"), 0);
            due("bytes", x.count(6), 0);
            due("near", x.told(1), 1);
            due("a fault", city(x, "near"), -14);
            due("bytes", x.count(6), 0);
            due("the next", city(x, "near 2"), 1);
            due("near", x.told(1), 2);
            due("of no text", x.city(), -10);
        });
        edge("THE TEXT, which is empty then (by a FAULT, too), is a CITY, and holds: its number.", x -> {
            // What stood ahead of a fault is no part of the next one, nor takes its room.
            crowd(x, 1);
            for (int i = 0; i < 5; i++) {
                due("a fault", city(x, "near 9;wind 9;tickle 9 !!!!p=0&!!!!p=0&!!!!p=0&!!!!p=0;sober 3 p=1;"), -77);
            }
            due("urge", x.of(0, 10), 0);
            due("city", city(x, "tickle 2 p=0;sober 1 p<9"), 0);
            due("urge", x.of(0, 10), 1);
            due("near", x.told(1), 3);
            due("wind", x.told(2), 2);
        });
        edge("FULL: there are 6 (THE TEXT stays);", x -> {
            for (int i = 0; i < 6; i++) {
                due("city", city(x, "near " + i), i);
            }
            due("a seventh", city(x, "near 9"), FULL);
            due("bytes", x.count(6), 6);
            due("what comes behind them", x.feed(';'), 7);
            due("again", x.city(), FULL);
            due("near", x.told(1), 5);
            due("cities", x.count(2), 6);
        });
        edge("FULL: there are 6 (THE TEXT stays);", x -> {
            for (int i = 0; i < 6; i++) {
                city(x, "near " + i);
            }
            due("of no text", x.city(), FULL);
            due("of a text with a fault", city(x, "x"), FULL);
            due("bytes", x.count(6), 1);
        });
        edge("-10 less the FAULT (the one that held holds).", x -> {
            due("at the first byte, none held", city(x, "x"), -10);
            due("near", x.told(1), 3);
            city(x, "near 1;wind 7");
            due("at the first byte", city(x, "x"), -10);
            due("at the second", city(x, "nx"), -11);
            due("at the end", city(x, "near 5;wind 5;"), -24);
            due("near", x.told(1), 1);
            due("wind", x.told(2), 7);
            due("cities", x.count(2), 1);
        });
        edge("-10 less the FAULT (the one that held holds).", x -> {
            // A hundred bytes, of which all but the last might begin one.
            for (char sign : "tickle 1 p=1".toCharArray()) {
                x.feed(sign);
            }
            for (int i = 0; i < 29; i++) {
                x.feed('|');
                x.feed('p');
                x.feed('=');
            }
            due("at the first number that is none", x.city(), -10 - 15);
        });
    }

    private static void told() {
        in("Promise 11");
        edge("What 0 HOUR, 1 NEAR, 2 WIND, 3 DOWN, 4 FALLS,", x -> {
            laugher(x);
            x.down(1);
            city(x, "near 4;wind 5");
            x.pass(1);
            int[] due = {1, 4, 5, 5, 1};
            for (int what = 0; what < 5; what++) {
                due("told(" + what + ")", x.told(what), due[what]);
            }
        });
        edge("5 who LAUGHS as all is now (bits),", x -> {
            due("nobody is there", x.told(5), 0);
            crowd(x, 5);
            due("nobody laughs", x.told(5), 0);
            laugher(x);
            due("the sixth", x.told(5), 32);
            x.swap(0, 5);
            due("by number, not by place", x.told(5), 32);
        });
        edge("6 SPARK (-5),", x -> {
            due("nobody", x.told(6), LACKING);
            crowd(x, 1);
            due("one", x.told(6), 0);
        });
        edge("7 how many LAUGH by it (0: nobody is on THE ROAD),", x -> {
            due("nobody", x.told(7), 0);
            crowd(x, 1);
            due("none", x.told(7), 0);
            for (int i = 0; i < 5; i++) {
                laugher(x);
            }
            due("all but the first, or all", x.told(7), 6);
            x.pass(1);
            due("those on the road", x.told(7), 5);
        });
        edge("8 HUSH (bits; -5),", x -> {
            due("nobody", x.told(8), 0);
            crowd(x, 5);
            x.one(1, 9, 1);
            x.swap(0, 5);
            x.down(1);
            due("the sixth", x.told(8), 32);
            city(x, "tickle 10 p=0|p=5");
            due("none", x.told(8), LACKING);
        });
        edge("9 how many are IN,", x -> {
            due("nobody", x.told(9), 0);
            crowd(x, 6);
            due("none", x.told(9), 0);
            x.pass(6);
            due("all", x.told(9), 6);
            x.again(3);
            due("all but one", x.told(9), 5);
        });
        edge("10 and k who is at place k of THE ROAD.", x -> {
            due("nobody", x.told(10), NONE);
            crowd(x, 6);
            due("the first", x.told(10), 0);
            due("the last", x.told(15), 5);
            due("beyond", x.told(16), NONE);
            x.pass(1);
            due("the first", x.told(10), 1);
            due("the last", x.told(14), 5);
            due("beyond", x.told(15), NONE);
        });
        edge("NONE.", x -> {
            crowd(x, 6);
            due("below", x.told(-1), NONE);
            due("above", x.told(16), NONE);
            due("far below", x.told(LEAST), NONE);
            due("far above", x.told(MOST), NONE);
        });
    }

    private static void pass() {
        in("Promise 12");
        edge("n HOURS (0 .. 60) go: HOUR.", x -> {
            crowd(x, 1);
            due("none", x.pass(0), 0);
            due("in", x.told(9), 0);
            x.down(59);
            due("the most", x.pass(60), 60);
            due("in", x.told(9), 1);
        });
        edge("BAD;", x -> {
            due("below", x.pass(-1), BAD);
            due("above", x.pass(61), BAD);
            due("far below", x.pass(LEAST), BAD);
            due("far above", x.pass(MOST), BAD);
            due("hour", x.told(0), 0);
        });
        edge("STATE: it would be above 9999.", x -> {
            hourBecomes(x, 9990);
            due("above", x.pass(10), STATE);
            due("far above", x.pass(60), STATE);
            due("hour", x.told(0), 9990);
            due("just so", x.pass(9), 9999);
            due("one more", x.pass(1), STATE);
            due("none more", x.pass(0), 9999);
            due("down", x.told(3), 90);
        });
    }

    private static void onAndTurn() {
        in("Promise 13");
        edge("ON: what 0 DOWN, 1 FALLS, 2 how many are IN, 10 and p MIRTH of PERSON p.", x -> {
            crowd(x, 5);
            laugher(x);
            x.down(3);
            due("down", x.on(2, 0), 1);
            due("falls", x.on(2, 1), 0);
            due("in", x.on(4, 2), 1);
            due("the first", x.on(0, 10), 0);
            due("the first, behind three", x.on(3, 10), 3);
            due("the sixth", x.on(0, 15), 9);
            due("the sixth, behind one", x.on(1, 15), 0);
        });
        edge("NONE;", x -> {
            due("nobody", x.on(0, 10), NONE);
            crowd(x, 6);
            due("below", x.on(0, -1), NONE);
            due("between", x.on(0, 3), NONE);
            due("between", x.on(0, 9), NONE);
            due("above", x.on(0, 16), NONE);
            due("far below", x.on(0, LEAST), NONE);
            due("far above", x.on(0, MOST), NONE);
        });
        edge("BAD: n.", x -> {
            crowd(x, 1);
            for (int what : new int[] {0, 1, 2, 10}) {
                due("below", x.on(-1, what), BAD);
                due("above", x.on(61, what), BAD);
                due("far below", x.on(LEAST, what), BAD);
                due("far above", x.on(MOST, what), BAD);
            }
        });
        in("Promise 14");
        edge("TURN; -5.", x -> {
            due("nobody", x.turn(1), LACKING);
            crowd(x, 6);
            due("none is better", x.turn(12), LACKING);
            city(x, "tickle 99 p=5&r=0;near 1;wind 99");
            x.swap(1, 5);
            due("the greatest two", x.turn(2), 5);
            x.swap(0, 5);
            due("it is in at once", x.turn(12), LACKING);
        });
        edge("BAD.", x -> {
            crowd(x, 2);
            due("below", x.turn(0), BAD);
            due("above", x.turn(13), BAD);
            due("far below", x.turn(LEAST), BAD);
            due("far above", x.turn(MOST), BAD);
            due("the least", x.turn(1), LACKING);
            due("the greatest", x.turn(12), LACKING);
        });
    }

    private static void see() {
        in("Promise 15");
        edge("What is SEEN comes: how many there are (person -1: none then, 0, whatever the rest is).", x -> {
            due("none of none", x.see(-1, 0, false), 0);
            crowd(x, 6);
            due("the first", x.see(0, 12, true), 1);
            due("the last one", x.see(5, 0, true), 2);
            due("not so", x.of(0, 7), 0);
            due("none, n far below", x.see(-1, LEAST, true), 0);
            due("none, n far above", x.see(-1, MOST, false), 0);
            due("how many", x.count(3), 0);
            due("all is so", x.of(0, 7), 1023);
            due("the first again", x.see(0, 0, false), 1);
        });
        edge("NONE;", x -> {
            due("nobody", x.see(0, 0, true), NONE);
            crowd(x, 1);
            due("below, but for -1", x.see(-2, 0, true), NONE);
            due("above", x.see(1, 0, true), NONE);
            due("far below", x.see(LEAST, 0, true), NONE);
            due("far above", x.see(MOST, 0, true), NONE);
        });
        edge("BAD: n;", x -> {
            crowd(x, 1);
            due("below", x.see(0, -1, true), BAD);
            due("above", x.see(0, 13, true), BAD);
            due("far below", x.see(0, LEAST, true), BAD);
            due("far above", x.see(0, MOST, true), BAD);
            due("how many", x.count(3), 0);
        });
        edge("FULL: 5.", x -> {
            crowd(x, 1);
            for (int row = 1; row <= 5; row++) {
                due("row", x.see(0, 0, false), row);
            }
            due("one more", x.see(0, 0, true), FULL);
            due("all is so", x.of(0, 7), 1023);
            due("none", x.see(-1, 0, true), 0);
            due("there is room", x.see(0, 0, true), 1);
        });
    }

    private static void can() {
        in("Promise 16");
        edge("CAN: what 0 how many, 1 the least; -5.", x -> {
            crowd(x, 1);
            due("all", x.can(0, 0), 10);
            due("the least", x.can(0, 1), 0);
            x.see(0, 0, true);
            due("none", x.can(0, 0), 0);
            due("the least", x.can(0, 1), LACKING);
        });
        edge("NONE.", x -> {
            due("nobody", x.can(0, 0), NONE);
            crowd(x, 1);
            due("person below", x.can(-1, 0), NONE);
            due("person above", x.can(1, 1), NONE);
            due("person far below", x.can(LEAST, 0), NONE);
            due("person far above", x.can(MOST, 1), NONE);
            due("what below", x.can(0, -1), NONE);
            due("what above", x.can(0, 2), NONE);
            due("what far below", x.can(0, LEAST), NONE);
            due("what far above", x.can(0, MOST), NONE);
        });
    }

    private static void oddsAndMean() {
        in("Promise 17");
        edge("ODDS; part 0 above, 1 below the line.", x -> {
            crowd(x, 3);
            due("none of three: above", x.odds(1, 0), 0);
            due("none of three: below", x.odds(1, 1), 1);
            x.down(1);
            city(x, "tickle 1 p=1");
            due("one of three: above", x.odds(1, 0), 1);
            due("one of three: below", x.odds(1, 1), 3);
        });
        edge("NO: n, part, as told.", x -> {
            due("nobody", x.odds(1, 0), NO);
            crowd(x, 1);
            due("n below", x.odds(0, 0), NO);
            due("n above", x.odds(21, 0), NO);
            due("n far below", x.odds(LEAST, 1), NO);
            due("n far above", x.odds(MOST, 1), NO);
            due("part below", x.odds(1, -1), NO);
            due("part above", x.odds(1, 2), NO);
            due("part far below", x.odds(20, LEAST), NO);
            due("part far above", x.odds(20, MOST), NO);
            due("the least", x.odds(1, 1), 1);
            due("the greatest", x.odds(20, 1), 1);
        });
        in("Promise 18");
        edge("MEAN; part likewise.", x -> {
            x.one(0, 0, 3);
            x.one(0, 0, 2);
            due("above", x.mean(0), 5);
            due("below", x.mean(1), 2);
        });
        edge("NO.", x -> {
            due("nobody", x.mean(0), NO);
            due("nobody", x.mean(1), NO);
            crowd(x, 1);
            due("part below", x.mean(-1), NO);
            due("part above", x.mean(2), NO);
            due("part far below", x.mean(LEAST), NO);
            due("part far above", x.mean(MOST), NO);
        });
    }

    private static void plan() {
        in("Promise 19");
        edge("A row comes to the PLAN: how many there are (what -1: it is empty then, 0, whatever the rest is).", x -> {
            due("none of none", x.plan(-1, 0), 0);
            due("the first", x.plan(0, 0), 1);
            crowd(x, 1);
            due("the second", x.plan(2, 0), 2);
            due("none, person far below", x.plan(-1, LEAST), 0);
            due("none, person far above", x.plan(-1, MOST), 0);
            due("how many", x.count(4), 0);
            due("in", x.ends(0), 0);
            due("the first again", x.plan(0, 0), 1);
            due("in", x.ends(0), 1);
        });
        edge("NONE: what (0 .. 3), person (by 1, 2);", x -> {
            due("what below, but for -1", x.plan(-2, 0), NONE);
            due("what above", x.plan(4, 0), NONE);
            due("what far below", x.plan(LEAST, 0), NONE);
            due("what far above", x.plan(MOST, 0), NONE);
            due("nobody, by 1", x.plan(1, 0), NONE);
            due("nobody, by 2", x.plan(2, 0), NONE);
            crowd(x, 1);
            due("person below, by 1", x.plan(1, -1), NONE);
            due("person above, by 1", x.plan(1, 1), NONE);
            due("person far below, by 2", x.plan(2, LEAST), NONE);
            due("person far above, by 2", x.plan(2, MOST), NONE);
            due("any, by 0", x.plan(0, LEAST), 1);
            due("any, by 3", x.plan(3, MOST), 2);
            due("one, by 1", x.plan(1, 0), 3);
            due("one, by 2", x.plan(2, 0), 4);
        });
        edge("FULL: 10.", x -> {
            crowd(x, 1);
            x.down(10);
            for (int row = 1; row <= 10; row++) {
                due("row", x.plan(0, 0), row);
            }
            due("one more", x.plan(3, 0), FULL);
            due("in", x.ends(0), 0);
            due("how many", x.count(4), 10);
            due("none", x.plan(-1, 0), 0);
            due("there is room", x.plan(3, 0), 1);
        });
    }

    private static void endsAndBook() {
        in("Promise 20");
        edge("ENDS: what 0 how many are IN, 1 FALLS.", x -> {
            due("nobody", x.ends(0), 0);
            crowd(x, 1);
            laugher(x);
            x.plan(0, 0);
            due("in", x.ends(0), 1);
            due("falls", x.ends(1), 1);
        });
        edge("NONE.", x -> {
            due("below", x.ends(-1), NONE);
            due("above", x.ends(2), NONE);
            due("far below", x.ends(LEAST), NONE);
            due("far above", x.ends(MOST), NONE);
        });
        in("Promise 21");
        edge("A row comes to the BOOK: how many there are (person -1: it is empty then, 0, whatever the rest is).", x -> {
            due("none of none", x.book(-1, 0), 0);
            crowd(x, 6);
            due("the first", x.book(0, 0), 1);
            due("the last one", x.book(5, 9), 2);
            due("otherwise", x.looked(), 1);
            due("none, mirth far below", x.book(-1, LEAST), 0);
            due("none, mirth far above", x.book(-1, MOST), 0);
            due("how many", x.count(5), 0);
            due("none is otherwise", x.looked(), LACKING);
            due("the first again", x.book(5, 9), 1);
            due("otherwise", x.looked(), 0);
        });
        edge("NONE;", x -> {
            due("nobody", x.book(0, 0), NONE);
            crowd(x, 1);
            due("below, but for -1", x.book(-2, 0), NONE);
            due("above", x.book(1, 0), NONE);
            due("far below", x.book(LEAST, 0), NONE);
            due("far above", x.book(MOST, 0), NONE);
        });
        edge("BAD: mirth;", x -> {
            crowd(x, 1);
            due("below", x.book(0, -1), BAD);
            due("above", x.book(0, 10), BAD);
            due("far below", x.book(0, LEAST), BAD);
            due("far above", x.book(0, MOST), BAD);
            due("how many", x.count(5), 0);
        });
        edge("FULL: 8.", x -> {
            crowd(x, 1);
            for (int row = 1; row <= 8; row++) {
                due("row", x.book(0, 0), row);
            }
            due("one more", x.book(0, 1), FULL);
            due("none is otherwise", x.looked(), LACKING);
            due("none", x.book(-1, 0), 0);
            due("there is room", x.book(0, 1), 1);
        });
        in("Promise 22");
        edge("LOOKED at; -5.", x -> {
            due("no rows", x.looked(), LACKING);
            crowd(x, 1);
            x.book(0, 0);
            due("none is otherwise", x.looked(), LACKING);
            x.cheer(0, 1);
            due("the first", x.looked(), 0);
        });
    }

    private static void judge() {
        in("Promise 23");
        edge("JUDGED from place i of a TAPE on.", x -> {
            crowd(x, 2);
            x.tape(5, 0, 60);
            x.item(5, 59, 1);
            due("the first place", x.judge(5, 0), 1);
            due("the last place but one", x.judge(5, 58), LACKING);
            due("the last place", x.judge(5, 59), 0);
            due("the end", x.judge(5, 60), 100);
            x.item(5, 59, 0);
            due("the last place", x.judge(5, 59), 101);
        });
        edge("NONE: tape;", x -> {
            due("below", x.judge(-1, 0), NONE);
            due("above", x.judge(6, 0), NONE);
            due("far below", x.judge(LEAST, 0), NONE);
            due("far above", x.judge(MOST, 0), NONE);
        });
        edge("CAST: it is no row of bytes.", x -> {
            crowd(x, 1);
            for (int sort = 1; sort <= 4; sort++) {
                x.tape(sort, sort, 1);
                due("a row of sort " + sort, x.judge(sort, 0), CAST);
                due("a row of sort " + sort + ", below 0", x.judge(sort, -1), CAST);
                x.tape(sort, sort, 0);
                due("an empty row of sort " + sort, x.judge(sort, 0), CAST);
            }
            x.tape(0, 0, 0);
            due("an empty row of bytes", x.judge(0, 0), 100);
            due("nothing", x.judge(5, 0), 100);
        });
    }

    private static void imageAndUndo() {
        in("Promise 24");
        edge("THE IMAGE is taken: how many PEOPLE there are.", x -> {
            due("of nobody", x.image(), 0);
            crowd(x, 6);
            x.pass(2);
            due("of all, those who are in, too", x.image(), 6);
            x.pass(1);
            due("the newest", x.image(), 6);
            x.pass(1);
            x.undo();
            due("how many are in", x.told(9), 3);
        });
        in("Promise 25");
        edge("All is as THE IMAGE: how many PEOPLE.", x -> {
            crowd(x, 2);
            x.image();
            due("at once", x.undo(), 2);
            crowd(x, 4);
            x.pass(3);
            due("later", x.undo(), 2);
            road(x, 0, 1);
            x.cheer(0, 9);
            due("as often as one likes", x.undo(), 2);
            due("the image does not change by what follows", x.of(0, 2), 0);
        });
        edge("All is as THE IMAGE: how many PEOPLE.", x -> {
            x.image();
            crowd(x, 1);
            due("of nobody", x.undo(), 0);
            due("people", x.count(0), 0);
        });
        edge("STATE: there is none.", x -> {
            crowd(x, 1);
            due("none", x.undo(), STATE);
            due("people", x.count(0), 1);
            x.image();
            due("one", x.undo(), 1);
        });
    }

    private static void acts() {
        in("Promise 26");
        edge("An ACT (0 coughs, 1 winks, 2 tells) of one with x.", x -> {
            x.one(0, 3, 0);
            due("coughs", x.act(0, 0, 5), 5);
            due("winks", x.act(0, 1, 5), 2);
            due("tells", x.act(0, 2, 5), 4);
            x.pass(1);
            due("of one who is in", x.act(0, 2, 5), 4);
        });
        edge("0, and no TRACE then: no such one, act.", x -> {
            due("nobody", x.act(0, 0, 5), 0);
            crowd(x, 1);
            int[][] none = {{-1, 0}, {1, 0}, {LEAST, 0}, {MOST, 0}, {0, -1}, {0, 3}, {0, LEAST}, {0, MOST}};
            for (int[] call : none) {
                x.act(0, 2, 5);
                due("act(" + call[0] + ", " + call[1] + ", 5)", x.act(call[0], call[1], 5), 0);
                trace(x);
            }
        });
        in("Promise 27");
        edge("THE TRACE's i-th body.", x -> {
            crowd(x, 1);
            x.act(0, 2, 0);
            due("the first", x.trace(0), 12);
            due("the last", x.trace(2), 10);
        });
        edge("NONE.", x -> {
            due("no act yet", x.trace(0), NONE);
            crowd(x, 1);
            x.act(0, 2, 0);
            due("below", x.trace(-1), NONE);
            due("above", x.trace(3), NONE);
            due("beyond what is kept", x.trace(20), NONE);
            due("far below", x.trace(LEAST), NONE);
            due("far above", x.trace(MOST), NONE);
        });
    }

    private static void taken() {
        in("Promise 28");
        edge("One taken for one of KIND k (0 .. 6), or one under that: its KIND.", x -> {
            x.one(4, 0, 0);
            due("its own", x.taken(0, 4), 4);
            due("above", x.taken(0, 1), 4);
            due("above that", x.taken(0, 0), 4);
            x.one(0, 0, 0);
            due("the first", x.taken(1, 0), 0);
        });
        edge("BAD: k;", x -> {
            crowd(x, 1);
            due("below", x.taken(0, -1), BAD);
            due("above", x.taken(0, 7), BAD);
            due("far below", x.taken(0, LEAST), BAD);
            due("far above", x.taken(0, MOST), BAD);
        });
        edge("NOTHING: no such one;", x -> {
            due("nobody", x.taken(0, 0), NOTHING);
            crowd(x, 1);
            due("below", x.taken(-1, 0), NOTHING);
            due("above", x.taken(1, 0), NOTHING);
            due("far below", x.taken(LEAST, 6), NOTHING);
            due("far above", x.taken(MOST, 6), NOTHING);
        });
        edge("CAST.", x -> {
            x.one(1, 0, 0);
            due("under it", x.taken(0, 4), CAST);
            due("beside it", x.taken(0, 2), CAST);
            due("under one beside it", x.taken(0, 6), CAST);
            due("itself", x.taken(0, 1), 1);
        });
    }

    private static void count() {
        in("Promise 29");
        edge("How many: 0 PEOPLE, 1 on THE ROAD, 2 CITIES, 3 SEEN, 4 of the PLAN, 5 of the BOOK, 6 bytes of THE TEXT,", x -> {
            crowd(x, 6);
            x.pass(1);
            city(x, "near 1");
            city(x, "near 2");
            for (int i = 0; i < 10; i++) {
                x.see(0, 0, true);
                x.plan(0, 0);
                x.book(0, 0);
            }
            for (int i = 0; i < 101; i++) {
                x.feed('n');
            }
            int[] due = {6, 5, 2, 5, 10, 8, 100};
            for (int what = 0; what < due.length; what++) {
                due("count(" + what + ")", x.count(what), due[what]);
            }
        });
        edge("7 bodies that ran in the latest act() (all, kept or not).", x -> {
            due("no act yet", x.count(7), 0);
            x.one(6, 0, 0);
            x.act(0, 2, 0);
            due("the most", x.count(7), 12);
            x.act(0, 0, 0);
            due("the latest", x.count(7), 2);
            x.act(0, 3, 0);
            due("none", x.count(7), 0);
        });
        edge("BAD.", x -> {
            due("below", x.count(-1), BAD);
            due("above", x.count(8), BAD);
            due("far below", x.count(LEAST), BAD);
            due("far above", x.count(MOST), BAD);
        });
    }

    private static void tape() {
        in("Promise 30");
        edge("A TAPE becomes a row of n (0 .. 60) of a sort, all 0, or holds nothing (sort -1: n does not matter): 1.", x -> {
            due("the fewest", x.tape(0, 0, 0), 1);
            due("there is no item", x.item(0, 0, 1), PLACE);
            due("the most", x.tape(5, 4, 60), 1);
            due("the last item", x.item(5, 59, 7), 1);
            due("one beyond", x.item(5, 60, 7), PLACE);
            x.item(5, 0, 7);
            due("the same again", x.tape(5, 4, 60), 1);
            due("all is 0", x.read(5, 0), 0);
            due("all is 0", x.read(5, 59), 0);
            x.item(5, 3, 1);
            due("shorter", x.tape(5, 2, 2), 1);
            due("longer", x.tape(5, 2, 9), 1);
            due("all is 0", x.read(5, 3), 0);
            due("nothing, n below 0", x.tape(5, -1, -1), 1);
            due("nothing is there", x.item(5, 0, 1), NOTHING);
            due("nothing, n above 60", x.tape(0, -1, MOST), 1);
            due("nothing is there", x.item(0, 0, 1), NOTHING);
            due("nothing, n far below 0", x.tape(0, -1, LEAST), 1);
        });
        edge("NONE: tape;", x -> {
            due("below", x.tape(-1, 0, 1), NONE);
            due("above", x.tape(6, 0, 1), NONE);
            due("far below", x.tape(LEAST, 0, 1), NONE);
            due("far above", x.tape(MOST, -1, 1), NONE);
        });
        edge("BAD: sort, n above 60;", x -> {
            due("sort below, but for -1", x.tape(0, -2, 1), BAD);
            due("sort above", x.tape(0, 5, 1), BAD);
            due("sort far below", x.tape(0, LEAST, 1), BAD);
            due("sort far above", x.tape(0, MOST, 1), BAD);
            due("n above", x.tape(0, 0, 61), BAD);
            due("n far above", x.tape(0, 4, MOST), BAD);
            due("nothing is there", x.item(0, 0, 1), NOTHING);
        });
        edge("SIZE.", x -> {
            due("n below", x.tape(0, 0, -1), SIZE);
            due("n far below", x.tape(0, 4, LEAST), SIZE);
            due("nothing is there", x.item(0, 0, 1), NOTHING);
        });
    }

    private static void item() {
        in("Promise 31");
        edge("Item i of a TAPE becomes v (its lowest bits, as many as an item has; booleans: whether v is not 0): 1.", x -> {
            for (int sort = 0; sort <= 4; sort++) {
                x.tape(sort, sort, 60);
            }
            long v = 0x0123456789ABCDEFL;
            long[] kept = {(byte) 0xEF, (short) 0xCDEF, 0x89ABCDEF, v, 1};
            for (int sort = 0; sort <= 4; sort++) {
                due("the first", x.item(sort, 0, v), 1);
                due("the last", x.item(sort, 59, v), 1);
                due("the first", x.read(sort, 0), kept[sort]);
                due("the last", x.read(sort, 59), kept[sort]);
                due("another one", x.read(sort, 1), 0);
            }
            long[] low = {256, 65536, 1L << 32};
            for (int sort = 0; sort < 3; sort++) {
                due("beyond the bits that it has", x.item(sort, 0, low[sort]), 1);
                due("nothing of it is kept", x.read(sort, 0), 0);
            }
            x.item(4, 0, 256);
            due("booleans look at all bits", x.read(4, 0), 1);
            x.item(4, 0, 0);
            due("0", x.read(4, 0), 0);
        });
        edge("NONE;", x -> {
            due("below", x.item(-1, 0, 1), NONE);
            due("above", x.item(6, 0, 1), NONE);
            due("far below", x.item(LEAST, 0, 1), NONE);
            due("far above", x.item(MOST, 0, 1), NONE);
        });
        edge("NOTHING;", x -> {
            due("at first", x.item(0, 0, 1), NOTHING);
            x.tape(0, 0, 1);
            due("no more", x.item(0, 0, 1), 1);
            x.tape(0, -1, 1);
            due("again", x.item(0, 0, 1), NOTHING);
        });
        edge("PLACE.", x -> {
            x.tape(0, 0, 3);
            due("below", x.item(0, -1, 1), PLACE);
            due("above", x.item(0, 3, 1), PLACE);
            due("far below", x.item(0, LEAST, 1), PLACE);
            due("far above", x.item(0, MOST, 1), PLACE);
            due("the last", x.item(0, 2, 1), 1);
            x.tape(0, 0, 0);
            due("of none", x.item(0, 0, 1), PLACE);
        });
    }

    private static void read() {
        in("Promise 32");
        edge("Item i of a TAPE.", x -> {
            fill(x, 0, 3, 1, 2, -3);
            due("the first", x.read(0, 0), 1);
            due("the last", x.read(0, 2), -3);
        });
        edge("NO: no such TAPE, nothing there, no such place.", x -> {
            due("tape below", x.read(-1, 0), NO);
            due("tape above", x.read(6, 0), NO);
            due("tape far below", x.read(LEAST, 0), NO);
            due("tape far above", x.read(MOST, 0), NO);
            due("nothing there", x.read(0, 0), NO);
            x.tape(0, 0, 2);
            due("place below", x.read(0, -1), NO);
            due("place above", x.read(0, 2), NO);
            due("place far below", x.read(0, LEAST), NO);
            due("place far above", x.read(0, MOST), NO);
            x.item(0, 0, 1);
            x.tape(0, -1, 0);
            due("nothing there any more", x.read(0, 0), NO);
            x.tape(0, 0, 0);
            due("no place at all", x.read(0, 0), NO);
        });
    }

    private static void shift() {
        in("Promise 33");
        edge("n items of a TAPE from i on come to another one (or the same) from j on, as they all were before: n.", x -> {
            fill(x, 0, 0, 1, 2, 3, 4, 5);
            fill(x, 1, 0, 9, 9, 9);
            due("to the end", x.shift(0, 3, 1, 1, 2), 2);
            holds(x, 1, 9, 4, 5);
            due("all", x.shift(0, 0, 0, 0, 5), 5);
            holds(x, 0, 1, 2, 3, 4, 5);
            due("the same, later", x.shift(0, 0, 0, 1, 4), 4);
            holds(x, 0, 1, 1, 2, 3, 4);
            due("the same, earlier", x.shift(0, 1, 0, 0, 4), 4);
            holds(x, 0, 1, 2, 3, 4, 4);
            due("none, at both ends", x.shift(0, 5, 1, 3, 0), 0);
            x.tape(2, 0, 0);
            due("none of none", x.shift(2, 0, 2, 0, 0), 0);
            holds(x, 1, 9, 4, 5);
            for (int sort = 1; sort <= 4; sort++) {
                fill(x, 3, sort, 1, 0, 1);
                fill(x, 4, sort, 0, 0, 0);
                due("of sort " + sort, x.shift(3, 0, 4, 0, 3), 3);
                holds(x, 4, 1, 0, 1);
            }
        });
        edge("NONE: tapes;", x -> {
            x.tape(0, 0, 1);
            due("the first below", x.shift(-1, 0, 0, 0, 1), NONE);
            due("the first above", x.shift(6, 0, 0, 0, 1), NONE);
            due("the other below", x.shift(0, 0, -1, 0, 1), NONE);
            due("the other above", x.shift(0, 0, 6, 0, 1), NONE);
            due("far", x.shift(LEAST, 0, MOST, 0, 1), NONE);
            due("far", x.shift(MOST, 0, LEAST, 0, 1), NONE);
        });
        edge("NOTHING;", x -> {
            x.tape(0, 0, 1);
            due("from nothing", x.shift(1, 0, 0, 0, 0), NOTHING);
            due("to nothing", x.shift(0, 0, 1, 0, 0), NOTHING);
            due("from nothing to nothing", x.shift(1, 0, 1, 0, 0), NOTHING);
        });
        edge("CAST: of unlike sorts;", x -> {
            for (int sort = 0; sort <= 4; sort++) {
                x.tape(sort, sort, 1);
            }
            for (int from = 0; from <= 4; from++) {
                for (int to = 0; to <= 4; to++) {
                    due("from " + from + " to " + to, x.shift(from, 0, to, 0, 1), from == to ? 1 : CAST);
                    due("none from " + from + " to " + to, x.shift(from, 0, to, 0, 0), from == to ? 0 : CAST);
                }
            }
        });
        edge("PLACE: n, i or j is below 0, or beyond either's end.", x -> {
            fill(x, 0, 0, 1, 2, 3, 4, 5);
            fill(x, 1, 0, 7, 8, 9);
            int[][] out = {{0, 0, -1}, {-1, 0, 1}, {0, -1, 1}, {-1, 0, 0}, {0, -1, 0}, {3, 0, 3}, {5, 0, 1}, {6, 0, 0},
                {0, 1, 3}, {0, 3, 1}, {0, 4, 0}, {0, 0, 4}, {1, 0, MOST}, {0, 1, MOST}, {MOST, 0, 1}, {0, MOST, 1},
                {LEAST, 0, 1}, {0, LEAST, 1}, {0, 0, LEAST}, {MOST, MOST, MOST}, {LEAST, LEAST, LEAST}, {1, 1, LEAST}};
            for (int[] call : out) {
                due("shift from " + call[0] + " to " + call[1] + " of " + call[2],
                    x.shift(0, call[0], 1, call[1], call[2]), PLACE);
            }
            holds(x, 1, 7, 8, 9);
            due("just not beyond", x.shift(0, 2, 1, 0, 3), 3);
            holds(x, 1, 3, 4, 5);
        });
    }
}
