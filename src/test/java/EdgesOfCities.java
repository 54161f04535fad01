/** The boundary cases of what a city is, which one holds, and whom it tickles. */
final class EdgesOfCities extends Sentences {
    static void all() {
        in("Terms");
        clauses();
        blanksAndNumbers();
        words();
        tests();
        facts();
        nesting();
        faults();
        holding();
    }

    /** Whom a test of a new city tickles, as bits. */
    private static int tickledBy(LaughingGate x, String test) {
        due("'" + test + "' is read", city(x, "tickle 99 " + test) >= 0 ? 1 : 0, 1);
        int bits = 0;
        for (int person = 0; person < x.count(0); person++) {
            // A WIDOW's urge is the least of those who are tickled, with 45.
            bits |= x.of(person, 10) >= 40 ? 1 << person : 0;
        }
        return bits;
    }

    /** Whom a test tickles of six: v are 0 .. 5, MIRTHS 4 .. 9, KINDS and places as their numbers. */
    private static void tickles(String test, int... people) {
        LaughingGate x = new LaughingGate();
        int bits = 0;
        for (int i = 0; i < 6; i++) {
            x.one(i, i, 4 + i);
        }
        for (int person : people) {
            bits |= 1 << person;
        }
        due("tickled by " + test, tickledBy(x, test), bits);
    }

    private static void clauses() {
        edge("A CITY is read from THE TEXT (bytes, 100 at most)", x -> {
            x.one(0, 0, 0);
            StringBuilder text = new StringBuilder("tickle 9 p=1");
            while (text.length() < 96) {
                text.append("|p=1");
            }
            for (char sign : (text + "|p=0").toCharArray()) {
                x.feed(sign);
            }
            due("bytes", x.count(6), 100);
            due("the 101st", x.feed('0'), FULL);
            due("city of 100 bytes", x.city(), 0);
            due("its last test holds", x.of(0, 10), 9);
        });
        edge("A CITY is read from THE TEXT (bytes, 100 at most)", x -> {
            // As many parts as go into a hundred bytes; the first one alone does not hold.
            crowd(x, 1);
            StringBuilder text = new StringBuilder("tickle 9 !!!p=0");
            for (int i = 0; i < 11; i++) {
                text.append("&!!!p=1");
            }
            due("city", city(x, text + "&!!!!p=0"), 0);
            due("the first holds it back", x.of(0, 10), 0);
            due("city", city(x, text.toString().replace("!!!p=0", "!!!p=1") + "&!!!!p=0"), 1);
            due("all hold", x.of(0, 10), 9);
        });
        edge("CLAUSES, 1 to 10", x -> {
            fault(x, "", 0);
            due("one", city(x, "near 5"), 0);
            due("near", x.told(1), 5);
            due("ten", city(x, "near 1;near 1;near 1;near 1;near 1;near 1;near 1;near 1;wind 8;near 9"), 1);
            due("near by the tenth", x.told(1), 9);
            due("wind by the ninth", x.told(2), 8);
            fault(x, "near 1;near 1;near 1;near 1;near 1;near 1;near 1;near 1;near 1;near 9;near 1", 69);
            fault(x, "near 1;near 1;near 1;near 1;near 1;near 1;near 1;near 1;near 1;near 9;", 69);
            due("near of before", x.told(1), 9);
        });
        edge("CLAUSES, 1 to 10", x -> {
            x.one(0, 0, 0);
            due("ten that tickle", city(x, "tickle 1 p=0;wind 1;wind 2;wind 3;wind 4;wind 5;wind 6;wind 7;wind 8;tickle 2 p=0"), 0);
            due("urge", x.of(0, 10), 3);
            due("wind", x.told(2), 8);
        });
        edge("with ; between", x -> {
            isCity(x, "near 1;near 2");
            fault(x, ";near 1", 0);
            fault(x, "near 1;", 7);
            fault(x, "near 1;;near 2", 7);
            fault(x, "near 1near 2", 6);
            fault(x, "near 1,near 2", 6);
            fault(x, "near 1; near 2", 7);
            fault(x, "near 1 ;near 2", 6);
            fault(x, ";", 0);
        });
    }

    private static void words() {
        edge(": tickle n E; sober n E; near n; wind n ", x -> {
            isCity(x, "tickle 1 p=0");
            isCity(x, "sober 1 p=0");
            isCity(x, "near 1");
            isCity(x, "wind 1");
            fault(x, "Tickle 1 p=0", 0);
            fault(x, "tIckle 1 p=0", 1);
            fault(x, "near\0001", 4);
            fault(x, "tackle 1 p=0", 1);
            fault(x, "tickles 1 p=0", 6);
            fault(x, "sobre 1 p=0", 3);
            fault(x, "nears 1", 4);
            fault(x, "nea 1", 3);
            fault(x, "winds 1", 4);
            fault(x, "wild 1", 2);
            fault(x, "x", 0);
            fault(x, "tickle p=0", 7);
            fault(x, "sober p=0", 6);
            fault(x, "tickle 1", 8);
            fault(x, "sober 1", 7);
            fault(x, "tickle 1;near 1", 8);
            fault(x, "near 1 p=0", 6);
            fault(x, "wind 1 p=0", 6);
        });
    }

    private static void blanksAndNumbers() {
        edge("(one blank ahead of each part behind the word;", x -> {
            fault(x, "near1", 4);
            fault(x, "near  1", 5);
            fault(x, " near 1", 0);
            fault(x, "near 1 ", 6);
            fault(x, "wind\t1", 4);
            fault(x, "tickle1 p=0", 6);
            fault(x, "tickle  1 p=0", 7);
            fault(x, "tickle 1p=0", 8);
            fault(x, "tickle 1  p=0", 9);
            fault(x, "tickle 1 p=0 ", 12);
            fault(x, "tickle 1 p =0", 10);
            fault(x, "tickle 1 p= 0", 11);
            fault(x, "sober 1 p=0 |p=1", 11);
            fault(x, "sober 1 p=0& p=1", 12);
            fault(x, "sober 1 ! p=0", 9);
            fault(x, "sober 1 ( p=0)", 9);
            fault(x, "sober 1 (p=0 )", 12);
        });
        edge("n 1 or 2 digits)", x -> {
            fault(x, "near ", 5);
            fault(x, "near x", 5);
            fault(x, "near -1", 5);
            fault(x, "near 1x", 6);
            fault(x, "near 123", 7);
            fault(x, "near /", 5);
            fault(x, "near :", 5);
            fault(x, "wind 000", 7);
            fault(x, "tickle 100 p=0", 9);
            fault(x, "sober 100 p=0", 8);
            due("one digit", city(x, "near 0;wind 9"), 0);
            due("near", x.told(1), 0);
            due("wind", x.told(2), 9);
            due("two digits", city(x, "near 99;wind 00"), 1);
            due("near", x.told(1), 99);
            due("wind", x.told(2), 0);
            due("two digits", city(x, "near 07;wind 10"), 2);
            due("near", x.told(1), 7);
            due("wind", x.told(2), 10);
        });
        edge("n 1 or 2 digits)", x -> {
            x.one(0, 0, 0);
            city(x, "tickle 0 p=0");
            due("the least", x.of(0, 10), 0);
            city(x, "tickle 99 p=0");
            due("the greatest", x.of(0, 10), 99);
            city(x, "sober 99 p=0");
            due("the greatest", x.of(0, 10), -99);
            city(x, "sober 05 p=0");
            due("with a 0 ahead", x.of(0, 10), -5);
        });
    }

    private static void tests() {
        edge("E: T or T|E.", x -> {
            tickles("p=1", 1);
            tickles("p=1|p=3", 1, 3);
            tickles("p=1|p=3|p=5", 1, 3, 5);
            tickles("p=0|p=0", 0);
            tickles("p=9|p=9|p=9|p=4", 4);
            fault(x, "tickle 1 |p=0", 9);
            fault(x, "tickle 1 p=0|", 13);
            fault(x, "tickle 1 p=0||p=1", 13);
        });
        edge("T: F or F&T.", x -> {
            tickles("p>1&p<4", 2, 3);
            tickles("p>1&p<4&p>2", 3);
            tickles("p=1&p=2");
            tickles("p<9&p<9&p<9&p=4", 4);
            // What & joins is within what | joins.
            tickles("p=0|p=1&v=9", 0);
            tickles("v=9&p=0|p=1", 1);
            tickles("p=0|p>2&p<4|p=5", 0, 3, 5);
            fault(x, "tickle 1 &p=0", 9);
            fault(x, "tickle 1 p=0&", 13);
            fault(x, "tickle 1 p=0&&p=1", 13);
            fault(x, "tickle 1 p=0&|p=1", 13);
            fault(x, "tickle 1 p=0|&p=1", 13);
        });
        edge("F: !F, (E), or a TEST:", x -> {
            tickles("!p=0", 1, 2, 3, 4, 5);
            tickles("!!p=0", 0);
            // A ! takes no more than what is next to it.
            tickles("!p=0&p<3", 1, 2);
            tickles("!p<4|p=0", 0, 4, 5);
            tickles("!(p<4|p=5)", 4);
            tickles("(p=0|p=1)&v=1", 1);
            tickles("v=1&(p=0|p=1)", 1);
            tickles("(p=2)", 2);
            fault(x, "tickle 1 ()", 10);
            fault(x, "tickle 1 (p=0", 13);
            fault(x, "tickle 1 p=0)", 12);
            fault(x, "tickle 1 (p=0))", 14);
            fault(x, "tickle 1 (p=0;near 1", 13);
            fault(x, "tickle 1 (p=0(", 13);
            fault(x, "tickle 1 !", 10);
            fault(x, "tickle 1 p!=0", 10);
            fault(x, "tickle 1 (!)", 11);
        });
        edge("a letter, < or = or >, a number (1 or 2 digits)", x -> {
            tickles("v<2", 0, 1);
            tickles("v=2", 2);
            tickles("v>2", 3, 4, 5);
            tickles("v<0");
            tickles("v>99");
            tickles("v<99", 0, 1, 2, 3, 4, 5);
            tickles("v=03", 3);
            tickles("v>04", 5);
            tickles("v=30");
            fault(x, "tickle 1 q=0", 9);
            fault(x, "tickle 1 P=0", 9);
            fault(x, "tickle 1 =0", 9);
            fault(x, "tickle 1 0", 9);
            fault(x, "tickle 1 p", 10);
            fault(x, "tickle 1 p0", 10);
            fault(x, "tickle 1 pp=0", 10);
            fault(x, "tickle 1 p==0", 11);
            fault(x, "tickle 1 p<=0", 11);
            fault(x, "tickle 1 p=", 11);
            fault(x, "tickle 1 p=x", 11);
            fault(x, "tickle 1 p=-1", 11);
            fault(x, "tickle 1 p=123", 13);
        });
    }

    private static void facts() {
        edge(": of one on THE ROAD p its number,", x -> {
            tickles("p<0");
            tickles("p<1", 0);
            tickles("p>4", 5);
            tickles("p>5");
            tickles("p=6");
        });
        edge("k its KIND,", x -> {
            x.one(6, 0, 0);
            x.one(0, 0, 0);
            x.one(5, 0, 0);
            due("the last", tickledBy(x, "k=6"), 1);
            due("the first", tickledBy(x, "k=0"), 2);
            due("above", tickledBy(x, "k>6"), 0);
            due("below", tickledBy(x, "k<0"), 0);
            due("a kind is not those above it", tickledBy(x, "k=2"), 0);
        });
        edge("v its v,", x -> {
            x.one(0, 9, 0);
            x.one(0, 0, 9);
            due("the greatest", tickledBy(x, "v=9"), 1);
            due("the least", tickledBy(x, "v=0"), 2);
            due("above", tickledBy(x, "v>9"), 0);
            due("below", tickledBy(x, "v<0"), 0);
        });
        edge("m MIRTH,", x -> {
            x.one(0, 0, 9);
            x.one(0, 9, 0);
            due("the greatest", tickledBy(x, "m=9"), 1);
            due("the least", tickledBy(x, "m=0"), 2);
            due("above", tickledBy(x, "m>9"), 0);
            due("below", tickledBy(x, "m<0"), 0);
            x.cheer(0, 0);
            due("as it is now", tickledBy(x, "m=0"), 3);
        });
        edge("r its place on THE ROAD,", x -> {
            crowd(x, 6);
            due("at the gate", tickledBy(x, "r=0"), 1);
            due("at the end", tickledBy(x, "r=5"), 32);
            x.swap(0, 5);
            due("at the end now", x.of(0, 10), 99);
            due("no more at the end", x.of(5, 10), 0);
            x.swap(0, 5);
            city(x, "near 0");
            x.pass(1);
            due("at the gate, behind one who is in", tickledBy(x, "r=0"), 2);
            due("nobody is so far", tickledBy(x, "r>4"), 0);
        });
        edge("h HOUR modulo 10.", x -> {
            x.one(0, 0, 0);
            x.down(99);
            due("the first hour", tickledBy(x, "h=0"), 1);
            int[] hours = {1, 9, 10, 11, 19, 20, 99, 100};
            city(x, "near 0;tickle 50 h=9;tickle 20 h=0;tickle 10 h>9");
            for (int hour : hours) {
                hourBecomes(x, hour);
                x.cheer(0, 0);
                due("urge in hour " + hour, x.of(0, 10), hour % 10 == 9 ? 50 : hour % 10 == 0 ? 20 : 0);
            }
        });
    }

    private static void nesting() {
        edge("A ( or ! within 4 others is none.", x -> {
            tickles("!!!!p=0", 0);
            tickles("!(!!p=0)", 1, 2, 3, 4, 5);
            tickles("((((p=0))))", 0);
            tickles("((((p=0|p=1))))&((((p=1|p=2))))", 1);
            tickles("!!!!p=0|!!!!p=2", 0, 2);
            tickles("(!!!p=0&!!!p=1)", 2, 3, 4, 5);
            tickles("!(!(p=0|p=3))", 0, 3);
        });
        edge("A ( or ! within 4 others is none.", x -> {
            fault(x, "tickle 1 !!!!!p=0", 13);
            fault(x, "tickle 1 (((((p=0)))))", 13);
            fault(x, "tickle 1 (!(!(p=0))))", 13);
            fault(x, "tickle 1 !(!(!p=0)))", 13);
            fault(x, "tickle 1 !!!!(p=0)", 13);
            fault(x, "tickle 1 ((((!p=0))))", 13);
            fault(x, "tickle 1 ((((p=0&!p=0))))", 17);
            fault(x, "tickle 1 ((((p=0|(p=0)))))", 17);
            fault(x, "tickle 1 (!!!p=0&!!!!p=1)", 20);
            fault(x, "near 1;sober 1 !!!!p=0|!!!!!p=0", 27);
        });
    }

    private static void faults() {
        edge("The FAULT: the place of the first byte with which none begins so", x -> {
            fault(x, "x", 0);
            fault(x, "xx", 0);
            x.feed(0);
            due("a byte that is no letter", x.city(), -10);
            x.feed(127);
            due("a byte that is no letter", x.city(), -10);
            fault(x, "ticklf 1 p=0", 5);
            fault(x, "near 1;tickle 1 p=0;wand 1", 21);
            fault(x, "near 1;sober 10 !(p=1|v<9)&h>0x", 30);
            fault(x, "near 1 wrong, and so is the rest ((((((((((", 6);
            fault(x, "nearer 1;x", 4);
        });
        edge("(the end of THE TEXT, if it ends too early)", x -> {
            String text = "tickle 12 !(p=1|v<9)&h>0";
            for (int length = 0; length <= text.length(); length++) {
                int number = length == 20 ? 0 : length == 24 ? 1 : -10 - length;
                due("city of the first " + length, city(x, text.substring(0, length)), number);
            }
        });
        edge("(the end of THE TEXT, if it ends too early)", x -> {
            StringBuilder text = new StringBuilder("tickle 1 p=1");
            while (text.length() < 96) {
                text.append("&p=1");
            }
            fault(x, text + "&p<", 99);
            fault(x, text + "|(p=", 100);
            isCity(x, text + "&p<1");
        });
    }

    private static void holding() {
        edge("The newest CITY holds (6 at most)", x -> {
            for (int i = 0; i < 6; i++) {
                due("city", city(x, "near " + (9 - i)), i);
                due("near", x.told(1), 9 - i);
            }
            due("a seventh", city(x, "near 1"), FULL);
            due("near", x.told(1), 4);
            due("how many", x.count(2), 6);
        });
        edge("; without one there are no CLAUSES.", x -> {
            x.one(0, 3, 6);
            due("urge", x.of(0, 10), 6);
            fault(x, "tickle 9 p=0;", 13);
            due("urge behind a fault", x.of(0, 10), 6);
            due("near", x.told(1), 3);
            due("wind", x.told(2), 2);
        });
        edge("NEAR (3 without)", x -> {
            due("without a city", x.told(1), 3);
            city(x, "near 0");
            due("the least", x.told(1), 0);
            city(x, "wind 9;tickle 1 p=0");
            due("with a city that does not tell", x.told(1), 3);
        });
        edge("WIND (2 without)", x -> {
            due("without a city", x.told(2), 2);
            city(x, "wind 0");
            due("the least", x.told(2), 0);
            city(x, "near 9;tickle 1 p=0");
            due("with a city that does not tell", x.told(2), 2);
        });
        edge(": the last n of near, of wind.", x -> {
            city(x, "near 1;near 5;wind 9;near 4;wind 7");
            due("near", x.told(1), 4);
            due("wind", x.told(2), 7);
            city(x, "wind 8;near 6;near 0;tickle 1 p=0;wind 00");
            due("near", x.told(1), 0);
            due("wind", x.told(2), 0);
        });
        edge("SUM of one: MIRTH, and the n of all tickle whose E holds, less those of all sober, together (may be below 0).", x -> {
            x.one(0, 0, 4);
            x.one(0, 0, 0);
            due("city", city(x, "tickle 3 p=0;tickle 2 p<9;tickle 50 p=1;sober 1 p=0;sober 90 p=1"), 0);
            due("all together", x.of(0, 10), 8);
            due("below 0", x.of(1, 10), -38);
            city(x, "sober 99 p<9;sober 99 p<9;sober 99 p<9;sober 99 p<9;sober 99 p<9;sober 99 p<9;sober 99 p<9");
            due("far below 0", x.of(0, 10), -689);
            city(x, "tickle 99 p<9;tickle 99 p<9;tickle 99 p<9;tickle 99 p<9;tickle 99 p<9;tickle 99 p<9");
            due("far above", x.of(0, 10), 598);
            city(x, "tickle 5 p=9;sober 5 p=9");
            due("none holds", x.of(0, 10), 4);
            city(x, "sober 4 p=0");
            due("just 0", x.of(0, 10), 0);
        });
    }
}
