/** The boundary cases of what is asked: hours that do not go, sparks, what was seen, odds, plans, books, acts, tapes. */
final class EdgesOfQuestions extends Sentences {
    static void all() {
        in("Terms");
        goingOn();
        onAndGets();
        spark();
        hush();
        turn();
        seen();
        oddsAndMean();
        planAndBook();
        acts();
        trace();
        imagePeople();
        imageOfSix();
        imageTown();
        imageTold();
        imageOfNoMore();
        tapes();
        judged();
    }

    /** Two people, the second one always laughing: there is a fall in each hour up to the last that may go. */
    private static void fallAlways(LaughingGate x) {
        crowd(x, 2);
        city(x, "tickle 99 p=1");
        for (int i = 0; i < 166; i++) {
            x.pass(60);
        }
        x.pass(39);
    }

    private static void goingOn() {
        edge("All that follows is asked, goes on from how all is (HOURS, FALLS beyond 9999, too)", x -> {
            fallAlways(x);
            due("hour", x.told(0), 9999);
            due("falls", x.told(4), 9999);
            due("falls behind no hour", x.on(0, 1), 9999);
            due("falls behind an hour", x.on(1, 1), 10000);
            due("falls behind 60", x.on(60, 1), 10059);
            x.plan(0, 0);
            x.plan(0, 0);
            due("falls of the plan", x.ends(1), 10001);
            due("nobody to be hushed", x.told(8), LACKING);
            due("odds", x.odds(1, 0), 1);
            due("odds", x.odds(1, 1), 1);
        });
        edge("All that follows is asked, goes on from how all is (HOURS, FALLS beyond 9999, too)", x -> {
            crowd(x, 1);
            hourBecomes(x, 9999);
            city(x, "tickle 99 h=0;wind 99");
            due("in hour 9999", x.on(1, 1), 0);
            due("in the one behind it", x.on(2, 1), 1);
            due("ten later", x.on(12, 1), 2);
            x.down(0);
            due("is in by then", x.of(0, 6), 1);
        });
        edge("goes on from how all is", x -> {
            crowd(x, 2);
            x.pass(1);
            due("in behind no hour", x.on(0, 2), 1);
            due("in behind an hour", x.on(1, 2), 2);
            x.down(5);
            due("in behind an hour", x.on(1, 2), 1);
        });
    }

    private static void onAndGets() {
        edge("ON n HOURS (0 .. 60): DOWN; FALLS; how many are IN; MIRTH of one.", x -> {
            crowd(x, 5);
            x.down(60);
            due("down behind none", x.on(0, 0), 60);
            due("down behind 60", x.on(60, 0), 0);
            due("falls behind none", x.on(0, 1), 0);
            due("in behind none", x.on(0, 2), 0);
            due("in behind 60", x.on(60, 2), 0);
            due("mirth behind none", x.on(0, 14), 0);
            due("mirth behind 60", x.on(60, 14), 9);
            due("hours below", x.on(-1, 0), BAD);
            due("hours above", x.on(61, 0), BAD);
            x.down(59);
            due("in behind 59", x.on(59, 2), 0);
            due("in behind 60", x.on(60, 2), 1);
        });
        edge("GETS of one: the fewest HOURS (0 .. 60) behind which it is IN (-5: not by then).", x -> {
            crowd(x, 2);
            x.pass(1);
            due("who is in", x.of(0, 6), 0);
            due("who is at the gate", x.of(1, 6), 1);
            x.down(1);
            due("an hour later", x.of(1, 6), 2);
            x.down(59);
            due("by the last hour", x.of(1, 6), 60);
            x.down(60);
            due("not by then", x.of(1, 6), LACKING);
            due("who is in", x.of(0, 6), 0);
        });
    }

    private static void spark() {
        edge("SPARK: the one on THE ROAD by whose MIRTH being 9 now most LAUGH as all is now", x -> {
            // 0 wakes nobody, 1 wakes 2, which wakes 3.
            x.one(0, 9, 0);
            x.one(1, 1, 0);
            x.one(0, 9, 7);
            x.one(0, 9, 7);
            due("spark", x.told(6), 1);
            due("by it", x.told(7), 3);
            due("as it is", x.told(5), 0);
        });
        edge("SPARK: the one on THE ROAD by whose MIRTH being 9 now most LAUGH as all is now", x -> {
            // MIRTH 9 is what sobers here, so that fewer laugh by it than as it is.
            x.one(0, 0, 5);
            city(x, "tickle 99 m<9");
            due("as it is", x.told(5), 1);
            due("spark", x.told(6), 0);
            due("by it", x.told(7), 0);
        });
        edge("(of several the first by number;", x -> {
            x.one(1, 1, 0);
            x.one(1, 1, 0);
            x.one(1, 1, 0);
            due("spark", x.told(6), 0);
            due("by it", x.told(7), 1);
            x.swap(0, 2);
            due("not the first by place", x.told(6), 0);
        });
        edge("(of several the first by number;", x -> {
            crowd(x, 2);
            x.swap(0, 1);
            due("though nobody laughs by any", x.told(6), 0);
            due("by it", x.told(7), 0);
            x.pass(1);
            due("the other one is in", x.told(6), 0);
            x.pass(1);
            x.again(1);
            due("the first is in", x.told(6), 1);
        });
        edge("-5: nobody is on THE ROAD); how many do.", x -> {
            due("spark of nobody", x.told(6), LACKING);
            due("by nobody", x.told(7), 0);
            laugher(x);
            due("spark", x.told(6), 0);
            due("how many", x.told(7), 1);
            x.pass(1);
            due("spark when all are in", x.told(6), LACKING);
            due("by nobody", x.told(7), 0);
        });
    }

    private static void hush() {
        edge("HUSH: the set with the fewest of those on THE ROAD (as bits;", x -> {
            // Either the one at place 0, or both behind it: the second laughs by the third, the third of itself.
            x.one(1, 7, 3);
            x.one(1, 9, 1);
            x.one(0, 0, 7);
            x.swap(0, 2);
            x.swap(0, 1);
            road(x, 2, 0, 1);
            city(x, "near 1");
            x.down(1);
            due("they laugh", x.told(5), 7);
            due("the fewest, though it is not the least", x.told(8), 4);
        });
        edge("HUSH: the set with the fewest of those on THE ROAD (as bits;", x -> {
            due("nobody there", x.told(8), 0);
            crowd(x, 1);
            due("nobody laughs", x.told(8), 0);
            x.pass(1);
            due("all are in", x.told(8), 0);
            for (int i = 0; i < 5; i++) {
                x.one(1, 5, 5);
            }
            city(x, "near 9");
            x.down(1);
            due("all on the road, not who is in", x.told(8), 62);
            x.down(0);
            due("who goes in laughs no more", x.told(8), 60);
            x.down(2);
            x.again(0);
            city(x, "near 9;tickle 9 p=0");
            x.cheer(0, 1);
            due("all six", x.told(8), 63);
        });
        edge("of several the least as bits)", x -> {
            crowd(x, 2);
            x.one(0, 0, 7);
            x.one(1, 5, 5);
            x.down(1);
            due("who wakes, or who is woken", x.told(8), 4);
            x = new LaughingGate();
            crowd(x, 2);
            x.one(1, 5, 5);
            x.one(0, 0, 7);
            x.swap(2, 3);
            x.down(1);
            due("not the first by place", x.told(8), 4);
        });
        edge("by whose MIRTH being 0 now FALLS are no more behind this HOUR (-5: none).", x -> {
            crowd(x, 1);
            x.down(1);
            city(x, "tickle 10 p=0");
            due("laughs when sober", x.told(8), LACKING);
            city(x, "tickle 9 p=0");
            x.cheer(0, 9);
            due("laughs when not", x.told(8), 1);
            x.down(0);
            due("is in by then", x.told(8), 0);
            x.down(1);
            city(x, "tickle 10 p=0;near 0");
            due("laughs, but not near", x.told(8), 0);
            city(x, "tickle 10 m<1");
            due("laughs only when sober", x.told(8), 0);
        });
        edge("by whose MIRTH being 0 now FALLS are no more behind this HOUR (-5: none).", x -> {
            // Only this hour counts: in the next one a sober one is merry again.
            x.one(0, 0, 1);
            x.down(5);
            city(x, "tickle 9 p=0");
            due("this hour", x.told(8), 1);
            x.cheer(0, 0);
            due("not the next", x.told(8), 0);
        });
    }

    private static void turn() {
        edge("TURN of n HOURS (1 .. 12): the two on THE ROAD (10 times the lesser and the greater number)", x -> {
            crowd(x, 3);
            city(x, "tickle 99 p=1&r=0;near 1;wind 99");
            due("hours below", x.turn(0), BAD);
            due("hours above", x.turn(13), BAD);
            due("one hour: one is in either way", x.turn(1), LACKING);
            due("two hours", x.turn(2), 1);
            due("twelve hours", x.turn(12), 1);
            x.swap(1, 2);
            due("twelve hours, from the last place", x.turn(12), 1);
            road(x, 0, 2, 1);
        });
        edge("who should change their places now, so that most are IN behind n,", x -> {
            // Whoever comes to place 0 now laughs, but for 3.
            crowd(x, 4);
            city(x, "tickle 20 r=0&h=0&!p=3;near 1;wind 9");
            due("3 for 1", x.turn(2), 13);
            road(x, 0, 1, 2, 3);
        });
        edge("so that most are IN behind n,", x -> {
            // 01 is better than as it is, since 0 is in ahead of 1, but 12 brings all in.
            crowd(x, 4);
            x.swap(0, 2);
            city(x, "tickle 99 p=1&r=0;near 1;wind 99");
            road(x, 2, 1, 0, 3);
            due("the best, not the first that is better", x.turn(4), 12);
            due("the first that is as good", x.turn(2), 1);
        });
        edge("if more than as it is", x -> {
            crowd(x, 4);
            due("all go in one by one", x.turn(3), LACKING);
            x.down(12);
            due("nobody goes in", x.turn(12), LACKING);
            x.down(0);
            x.pass(3);
            due("one is left", x.turn(5), LACKING);
            x.pass(1);
            due("nobody is left", x.turn(5), LACKING);
            due("nobody was there", new LaughingGate().turn(5), LACKING);
        });
        edge("(of several the first; -5: none).", x -> {
            // 4 keeps all behind it out; with 0, 1, 2 or 3 in its stead as many are in.
            crowd(x, 5);
            city(x, "tickle 99 p=4&r=0;near 1;wind 99");
            x.swap(4, 1);
            road(x, 0, 4, 2, 3, 1);
            due("04, then 14, 24, 34", x.turn(2), 4);
            due("04 alone, by which 4 is in, too", x.turn(5), 4);
            x.swap(4, 1);
            due("none is better", x.turn(4), LACKING);
            x.pass(1);
            x.swap(4, 2);
            road(x, 1, 4, 3, 2);
            due("0 is in, and does not change", x.turn(2), 14);
        });
    }

    private static void seen() {
        edge("SEEN told by hand: one, HOURS n (0 .. 12) from now, whether it is IN then (5 rows at most).", x -> {
            crowd(x, 1);
            due("hours below", x.see(0, -1, true), BAD);
            due("hours above", x.see(0, 13, true), BAD);
            due("the fewest", x.see(0, 0, false), 1);
            due("the most", x.see(0, 12, true), 2);
            due("row", x.see(0, 1, true), 3);
            due("row", x.see(0, 1, true), 4);
            due("all are so", x.of(0, 7), 1023);
            due("the last", x.see(0, 0, true), 5);
            due("the last is not so", x.of(0, 7), 0);
            due("one more", x.see(0, 1, true), FULL);
        });
        edge("SEEN told by hand: one, HOURS n (0 .. 12) from now, whether it is IN then (5 rows at most).", x -> {
            crowd(x, 1);
            x.down(11);
            x.see(0, 11, false);
            x.see(0, 12, true);
            due("in by the twelfth hour", x.of(0, 7), 1023);
            x.down(12);
            due("not by then", x.of(0, 7), 0);
            x.down(10);
            due("by the eleventh", x.of(0, 7), 0);
        });
        edge("SEEN told by hand: one, HOURS n (0 .. 12) from now, whether it is IN then (5 rows at most).", x -> {
            crowd(x, 1);
            x.see(0, 0, false);
            due("from now", x.of(0, 7), 1023);
            x.pass(1);
            due("from now", x.of(0, 7), 0);
            x.again(0);
            due("from now", x.of(0, 7), 1023);
            hourBecomes(x, 30);
            x.down(11);
            x.see(0, 11, false);
            x.see(0, 12, true);
            due("from now, late", x.of(0, 7), 1023);
            x.pass(1);
            due("one hour nearer", x.of(0, 7), 0);
        });
        edge("MIRTHS of one: those numbers 0 .. 9, as bits, by which, were that its MIRTH now, all of SEEN is so.", x -> {
            crowd(x, 2);
            due("nothing seen", x.of(1, 7), 1023);
            x.see(1, 2, true);
            city(x, "tickle 9 p=1");
            due("the least alone", x.of(1, 7), 1);
            city(x, "tickle 1 p=1");
            due("all but the greatest", x.of(1, 7), 511);
            x.see(1, 1, true);
            due("both rows", x.of(1, 7), 0);
            x.see(-1, 0, false);
            x.see(1, 2, false);
            due("the greatest alone", x.of(1, 7), 512);
            due("another one's mirth", x.of(0, 7), 0);
            x.cheer(1, 9);
            due("another one's mirth", x.of(0, 7), 1023);
            due("its mirth", x.of(1, 2), 9);
        });
        edge("CAN of one: how many numbers v (0 .. 9) there are by which, were that its v, likewise; the least (-5: none).", x -> {
            crowd(x, 1);
            x.one(1, 4, 0);
            due("nothing seen", x.can(1, 0), 10);
            due("the least", x.can(1, 1), 0);
            city(x, "tickle 1 p=1");
            x.see(1, 2, false);
            due("the greatest alone", x.can(1, 0), 1);
            due("the least", x.can(1, 1), 9);
            city(x, "tickle 9 p=1;wind 3");
            due("all but the least", x.can(1, 0), 9);
            due("the least", x.can(1, 1), 1);
            x.see(1, 0, true);
            due("none", x.can(1, 0), 0);
            due("the least", x.can(1, 1), LACKING);
            due("its v", x.of(1, 1), 4);
        });
    }

    private static void oddsAndMean() {
        edge("ODDS of n HOURS (1 .. 20): if MIRTH of one on THE ROAD, each alike likely, is 9 now:", x -> {
            crowd(x, 2);
            city(x, "near 1;tickle 99 p=1&r=0");
            x.down(19);
            due("hours below", x.odds(0, 0), NO);
            due("hours above", x.odds(21, 0), NO);
            due("behind the fewest", x.odds(1, 0), 0);
            due("behind 19", x.odds(19, 0), 0);
            due("behind the most", x.odds(20, 0), 1);
        });
        edge("how likely FALLS are more behind n than now: a fraction in lowest terms", x -> {
            // Only who is tickled laughs by MIRTH 9, and only at the first three places it is near.
            crowd(x, 4);
            x.down(9);
            due("none: above", x.odds(1, 0), 0);
            due("none: below", x.odds(1, 1), 1);
            city(x, "tickle 1 p=1");
            due("one of four: above", x.odds(1, 0), 1);
            due("one of four: below", x.odds(1, 1), 4);
            city(x, "tickle 1 p<2");
            due("two of four: above", x.odds(1, 0), 1);
            due("two of four: below", x.odds(1, 1), 2);
            city(x, "tickle 1 p<9");
            due("three of four: above", x.odds(1, 0), 3);
            due("three of four: below", x.odds(1, 1), 4);
            city(x, "tickle 1 p<9;near 4");
            due("all: above", x.odds(1, 0), 1);
            due("all: below", x.odds(1, 1), 1);
        });
        edge("(NO: nobody is there).", x -> {
            due("nobody", x.odds(1, 0), NO);
            due("nobody", x.odds(20, 1), NO);
            laugher(x);
            due("one", x.odds(1, 1), 1);
            x.pass(1);
            due("all are in", x.odds(1, 0), NO);
            due("all are in", x.odds(1, 1), NO);
        });
        edge("MEAN: MIRTH of all on THE ROAD, together, by how many they are: a fraction in lowest terms", x -> {
            x.one(0, 0, 9);
            due("one: above", x.mean(0), 9);
            due("one: below", x.mean(1), 1);
            x.one(0, 0, 1);
            x.one(0, 0, 2);
            x.one(0, 0, 0);
            due("12 by 4: above", x.mean(0), 3);
            due("12 by 4: below", x.mean(1), 1);
            x.cheer(3, 2);
            due("14 by 4: above", x.mean(0), 7);
            due("14 by 4: below", x.mean(1), 2);
            x.pass(1);
            due("8 by 3, who is in left out: above", x.mean(0), 8);
            due("8 by 3, who is in left out: below", x.mean(1), 3);
            x.cheer(1, 0);
            x.cheer(2, 0);
            x.cheer(3, 0);
            due("0 by 3: above", x.mean(0), 0);
            due("0 by 3: below", x.mean(1), 1);
        });
        edge("(NO: nobody is).", x -> {
            due("nobody", x.mean(0), NO);
            due("nobody", x.mean(1), NO);
            crowd(x, 1);
            x.pass(1);
            due("all are in", x.mean(0), NO);
            due("all are in", x.mean(1), NO);
        });
    }

    private static void planAndBook() {
        edge("A PLAN told by hand: what goes (0 an HOUR, 1 MIRTH of one is 0, 2 MIRTH of one is 9, 3 DOWN is 0, whatever n is;", x -> {
            due("what below, but for -1", x.plan(-2, 0), NONE);
            due("what above", x.plan(4, 0), NONE);
            due("an hour of nobody", x.plan(0, LEAST), 1);
            due("down of nobody", x.plan(3, MOST), 2);
            crowd(x, 1);
            x.plan(-1, 0);
            x.down(1);
            city(x, "tickle 9 p=0;wind 5");
            due("nothing: in", x.ends(0), 0);
            x.plan(3, 77);
            x.plan(0, -9);
            due("the gate is up: in", x.ends(0), 1);
            due("the gate is up: falls", x.ends(1), 0);
            x.plan(-1, 0);
            x.plan(0, 0);
            x.plan(0, 0);
            due("two hours, and merry in the second, but in: falls", x.ends(1), 0);
            x.plan(-1, 0);
            x.plan(2, 0);
            x.plan(0, 0);
            due("merry: falls", x.ends(1), 1);
            x.plan(-1, 0);
            x.plan(2, 0);
            x.plan(1, 0);
            x.plan(0, 0);
            due("merry, then sober: falls", x.ends(1), 0);
            city(x, "tickle 10 m=0");
            due("just 0, when sober: falls", x.ends(1), 1);
            x.plan(1, 0);
            x.plan(-1, 0);
            x.plan(2, 0);
            city(x, "tickle 1 m=9");
            x.plan(0, 0);
            due("just 9, when merry: falls", x.ends(1), 1);
        });
        edge("10 rows at most): ENDS: how many are IN; FALLS.", x -> {
            crowd(x, 1);
            x.down(9);
            for (int row = 1; row <= 9; row++) {
                due("row", x.plan(0, 0), row);
            }
            due("in behind nine", x.ends(0), 0);
            due("the last row", x.plan(0, 0), 10);
            due("in behind ten", x.ends(0), 1);
            due("one more", x.plan(0, 0), FULL);
            x.plan(-1, 0);
            due("of no rows: in", x.ends(0), 0);
            due("of no rows: falls", x.ends(1), 0);
        });
        edge("A BOOK told by hand: PEOPLE, MIRTH (0 .. 9; 8 at most): LOOKED at: "
            + "the number (from 0) of the first of these rows by which it is otherwise now (-5: none).", x -> {
            x.one(0, 0, 0);
            x.one(0, 0, 9);
            due("no rows", x.looked(), LACKING);
            due("mirth below", x.book(0, -1), BAD);
            due("mirth above", x.book(0, 10), BAD);
            due("the least", x.book(0, 0), 1);
            due("the greatest", x.book(1, 9), 2);
            for (int row = 3; row <= 7; row++) {
                due("row", x.book(0, 0), row);
            }
            due("none is otherwise", x.looked(), LACKING);
            due("the last row", x.book(1, 8), 8);
            due("the last is otherwise", x.looked(), 7);
            due("one more", x.book(0, 5), FULL);
            x.cheer(1, 8);
            due("the second, not the last", x.looked(), 1);
            x.cheer(0, 1);
            due("the first of several", x.looked(), 0);
            x.cheer(0, 0);
            x.cheer(1, 9);
            x.pass(1);
            x.cheer(0, 7);
            due("of one who is in", x.looked(), 0);
        });
    }

    private static LaughingGate second(int kind, int v) {
        LaughingGate x = new LaughingGate();
        x.one(0, 0, 0);
        x.one(kind, v, 0);
        return x;
    }

    /** What the second one, with v 4, answers to 10, and which bodies ran by that. */
    private static void acts(int kind, int act, int due, int... bodies) {
        LaughingGate x = second(kind, 4);
        due("act " + act + " of kind " + kind, x.act(1, act, 10), due);
        trace(x, bodies);
    }

    private static void acts() {
        edge("ACTS of one with x (wrapping): 0 coughs, 1 winks, 2 tells; i its number.", x -> {
            x = second(0, 9);
            due("the greatest", x.act(1, 0, MOST), LEAST);
            due("of number 0", x.act(0, 0, MOST), MOST);
            due("winks wrap", x.act(1, 1, LEAST), MOST - 7);
            due("tells wrap", x.act(1, 2, MOST), -18);
            x = second(2, 0);
            due("times 3 wraps", x.act(1, 0, MOST), MOST - 1);
            x = second(4, 0);
            due("the least has no opposite", x.act(1, 0, MOST), LEAST);
            x = second(5, 0);
            due("less i wraps", x.act(1, 2, LEAST), -4);
            due("act below", x.act(1, -1, 5), 0);
            due("act above", x.act(1, 3, 5), 0);
        });
        edge("BODIES: ONE: 10 coughs: x + i. 11 winks: coughs(x) - v. 12 tells: winks(x) * 2.", x -> {
            acts(0, 0, 11, 10);
            acts(0, 1, 7, 11, 10);
            acts(0, 2, 14, 12, 11, 10);
        });
        edge("TRADER: 20 winks: super.winks(x) ^ 6.", x -> {
            acts(1, 1, 1, 20, 11, 10);
            due("below 0", second(1, 4).act(1, 1, -10), -11);
        });
        edge("BISHOP: 30 coughs: super.coughs(x * 3).", x -> acts(2, 0, 31, 30, 10));
        edge("CHILD: 40 tells: super.tells(x) + winks(1).", x -> acts(3, 2, 12, 40, 12, 11, 10, 11, 10));
        edge("FRIEND: 50 coughs: -super.coughs(x). 51 winks: super.winks(x + 1).", x -> {
            acts(4, 0, -11, 50, 10);
            acts(4, 1, -10, 51, 20, 11, 50, 10);
        });
        edge("WIDOW: 60 tells: super.tells(x - i).", x -> acts(5, 2, 48, 60, 12, 11, 30, 10));
        edge("TOLD: 70 winks: super.winks(x) + super.coughs(2). 71 coughs: super.coughs(x) ^ v.", x -> {
            acts(6, 0, 15, 71, 10);
            acts(6, 1, 14, 70, 11, 71, 10, 10);
        });
        edge("coughs(..) and so on: the body of its KIND, or, if that has none, of the next KIND above that has one;", x -> {
            acts(1, 0, 11, 10);
            acts(3, 0, 11, 10);
            acts(5, 0, 31, 30, 10);
            acts(2, 1, 27, 11, 30, 10);
            acts(5, 1, 27, 11, 30, 10);
            acts(3, 1, 7, 11, 10);
            acts(1, 2, 2, 12, 20, 11, 10);
            acts(2, 2, 54, 12, 11, 30, 10);
            acts(4, 2, -20, 12, 51, 20, 11, 50, 10);
        });
        edge("super.coughs(..): so from the KIND above the body's on;", x -> {
            // TOLD's 70 coughs by 10, not by its own 71; 40 tells by 12, though TOLD is under CHILD.
            acts(6, 1, 14, 70, 11, 71, 10, 10);
            acts(6, 2, 33, 40, 12, 70, 11, 71, 10, 10, 70, 11, 71, 10, 10);
        });
        edge("all that stands in a body is done from the left on.", x -> {
            acts(3, 2, 12, 40, 12, 11, 10, 11, 10);
            acts(6, 2, 33, 40, 12, 70, 11, 71, 10, 10, 70, 11, 71, 10, 10);
        });
    }

    private static void trace() {
        edge("THE TRACE: the numbers of the bodies that ran in the latest act(), as they began; the first 20 are kept.", x -> {
            trace(x);
            due("ahead of the first", x.trace(-1), NONE);
            x.one(6, 0, 0);
            x.act(0, 2, 0);
            trace(x, 40, 12, 70, 11, 71, 10, 10, 70, 11, 71, 10, 10);
            due("the twentieth", x.trace(19), NONE);
            due("beyond what is kept", x.trace(20), NONE);
            x.act(0, 0, 0);
            trace(x, 71, 10);
            x.act(1, 0, 0);
            trace(x);
        });
    }

    private static void imagePeople() {
        edge("THE IMAGE: PEOPLE with all that is theirs,", x -> {
            x.one(6, 3, 4);
            x.row(0, 3, 5);
            x.image();
            x.cheer(0, 9);
            x.row(0, 3, 6);
            x.row(0, 0, 7);
            x.one(1, 9, 9);
            x.pass(1);
            due("people", x.undo(), 1);
            due("kind", x.of(0, 0), 6);
            due("v", x.of(0, 1), 3);
            due("mirth", x.of(0, 2), 4);
            due("in", x.of(0, 3), 0);
            due("the fourth of its row", x.row(0, 3, 1), 5);
            due("the first of its row", x.row(0, 0, 1), 0);
            due("who came later", x.of(1, 0), NO_NUMBER);
            due("one more", x.one(6, 0, 0), 1);
            due("kind", x.of(1, 0), 6);
        });
        edge("THE IMAGE: PEOPLE with all that is theirs,", x -> {
            // Who has the number of one that is no more has nothing of that one.
            x.image();
            x.one(6, 9, 9);
            x.row(0, 0, 9);
            x.row(0, 3, 8);
            x.pass(1);
            due("people", x.undo(), 0);
            x.one(6, 1, 2);
            due("in", x.of(0, 3), 0);
            due("the first of its row", x.row(0, 0, 0), 0);
            due("the fourth of its row", x.row(0, 3, 0), 0);
        });
    }

    private static void imageOfSix() {
        edge("THE IMAGE: PEOPLE with all that is theirs,", x -> {
            for (int person = 0; person < 6; person++) {
                x.one(6, 9 - person, person);
                for (int part = 0; part < 4; part++) {
                    x.row(person, part, person + part);
                }
            }
            x.image();
            for (int person = 0; person < 6; person++) {
                x.cheer(person, 9);
                for (int part = 0; part < 4; part++) {
                    x.row(person, part, 9);
                }
            }
            x.undo();
            for (int person = 0; person < 6; person++) {
                due("v", x.of(person, 1), 9 - person);
                due("mirth", x.of(person, 2), person);
                for (int part = 0; part < 4; part++) {
                    due("row", x.row(person, part, 0), person + part);
                }
            }
        });
    }

    private static void imageTown() {
        edge("THE ROAD, DOWN, FALLS, HOUR,", x -> {
            crowd(x, 3);
            laugher(x);
            x.swap(0, 2);
            x.pass(1);
            x.image();
            due("falls", x.told(4), 1);
            x.swap(0, 1);
            x.pass(60);
            x.again(2);
            x.down(50);
            x.undo();
            road(x, 1, 0, 3);
            due("in", x.of(2, 3), 1);
            due("down", x.told(3), 2);
            due("falls", x.told(4), 1);
            due("hour", x.told(0), 1);
        });
    }

    private static void imageTold() {
        edge("SEEN, the PLAN, the BOOK,", x -> {
            crowd(x, 2);
            x.image();
            x.see(0, 0, true);
            x.plan(0, 0);
            x.book(0, 5);
            x.undo();
            due("nothing seen", x.of(0, 7), 1023);
            due("nothing planned", x.ends(0), 0);
            due("nothing booked", x.looked(), LACKING);
            x.see(1, 1, true);
            x.plan(0, 0);
            x.book(0, 0);
            x.book(1, 5);
            x.image();
            x.see(-1, 0, true);
            x.plan(-1, 0);
            x.book(-1, 0);
            x.book(0, 5);
            x.undo();
            due("seen", x.of(0, 7), 0);
            due("planned", x.ends(0), 1);
            due("booked", x.looked(), 1);
            due("seen", x.count(3), 1);
            due("planned", x.count(4), 1);
            due("booked", x.count(5), 2);
        });
        edge("which CITY holds.", x -> {
            x.image();
            city(x, "near 5");
            x.undo();
            due("none holds", x.told(1), 3);
            due("it is still counted", x.count(2), 1);
            city(x, "near 6");
            x.image();
            due("the next", city(x, "near 7"), 2);
            x.undo();
            due("the one of then", x.told(1), 6);
            due("the next", city(x, "near 8"), 3);
            due("the newest", x.told(1), 8);
            x.undo();
            due("the one of then", x.told(1), 6);
        });
    }

    private static void imageOfNoMore() {
        edge("THE IMAGE: PEOPLE with all that is theirs, THE ROAD, DOWN, FALLS, HOUR, SEEN, the PLAN, the BOOK, which CITY holds.", x -> {
            // All else is as it was ahead of the undo.
            crowd(x, 1);
            x.image();
            city(x, "near 1");
            x.feed('n');
            bytes(x, 0, 1, 2);
            x.act(0, 1, 5);
            x.undo();
            due("cities", x.count(2), 1);
            due("bytes of the text", x.count(6), 1);
            due("tape", x.read(0, 1), 2);
            trace(x, 11, 10);
        });
    }

    private static void tapes() {
        edge("TAPES 0 .. 5 hold nothing (at first),", x -> {
            for (int tape = 0; tape < 6; tape++) {
                due("read", x.read(tape, 0), NO);
                due("item", x.item(tape, 0, 1), NOTHING);
            }
            due("tape below", x.item(-1, 0, 1), NONE);
            due("tape above", x.item(6, 0, 1), NONE);
            due("the first", x.tape(0, 0, 1), 1);
            due("the last", x.tape(5, 4, 1), 1);
            due("the first", x.read(0, 0), 0);
            due("the last", x.read(5, 0), 0);
        });
        edge("or a row of 0 bytes, 1 shorts, 2 ints, 3 longs, 4 booleans (items 0, 1).", x -> {
            for (int sort = 0; sort <= 4; sort++) {
                due("sort", x.tape(sort, sort, 2), 1);
            }
            due("sort below, but for -1", x.tape(0, -2, 2), BAD);
            due("sort above", x.tape(0, 5, 2), BAD);
            keeps(x, 0, 127, 127);
            keeps(x, 0, 128, -128);
            keeps(x, 0, -129, 127);
            keeps(x, 1, 32767, 32767);
            keeps(x, 1, 32768, -32768);
            keeps(x, 1, -32769, 32767);
            keeps(x, 2, MOST, MOST);
            keeps(x, 2, MOST + 1L, LEAST);
            keeps(x, 2, LEAST - 1L, MOST);
            keeps(x, 3, Long.MAX_VALUE, Long.MAX_VALUE);
            keeps(x, 3, Long.MIN_VALUE + 1, Long.MIN_VALUE + 1);
            keeps(x, 4, 0, 0);
            keeps(x, 4, 1, 1);
            keeps(x, 4, 2, 1);
            keeps(x, 4, -1, 1);
            keeps(x, 4, 1L << 32, 1);
            keeps(x, 4, Long.MIN_VALUE, 1);
        });
    }

    private static void keeps(LaughingGate x, int tape, long v, long kept) {
        due("item", x.item(tape, 1, v), 1);
        due("read of " + v + " from sort " + tape, x.read(tape, 1), kept);
        due("read of its neighbour", x.read(tape, 0), 0);
    }

    private static void judged() {
        edge("THE ROAD told by a row of bytes, from a place on, place by place, is JUDGED: "
            + "the first that is otherwise (counted from 0 from that place on);", x -> {
            crowd(x, 3);
            x.swap(0, 1);
            bytes(x, 0, 1, 0, 2);
            due("none", x.judge(0, 0), LACKING);
            bytes(x, 0, 2, 0, 2);
            due("the first", x.judge(0, 0), 0);
            bytes(x, 0, 1, 0, 1);
            due("the last", x.judge(0, 0), 2);
            bytes(x, 0, 1, 1, 1);
            due("the first of several", x.judge(0, 0), 1);
            bytes(x, 0, 9, 9, 1, 2, 2);
            due("counted from that place on", x.judge(0, 2), 1);
            bytes(x, 0, 1, 0, -126);
            due("a byte below 0", x.judge(0, 0), 2);
        });
        edge("-5: none, or nobody is on it (wherever the place is, also if the TAPE holds nothing);", x -> {
            due("nobody, nothing", x.judge(0, 0), LACKING);
            due("nobody, nothing, below 0", x.judge(5, LEAST), LACKING);
            due("nobody, nothing, far beyond", x.judge(5, MOST), LACKING);
            bytes(x, 0, 7);
            due("nobody", x.judge(0, 0), LACKING);
            due("nobody, below 0", x.judge(0, -1), LACKING);
            due("nobody, beyond", x.judge(0, 2), LACKING);
            crowd(x, 1);
            x.pass(1);
            due("all are in", x.judge(0, 0), LACKING);
            due("all are in, beyond", x.judge(0, 60), LACKING);
            x.again(0);
            bytes(x, 0, 5, 0, 5);
            due("none, though the row goes on", x.judge(0, 1), LACKING);
        });
        edge("100 and how many were looked at, if the row ends ahead of that "
            + "(or the place is below 0, or the TAPE holds nothing).", x -> {
            crowd(x, 3);
            due("nothing", x.judge(0, 0), 100);
            due("nothing, below 0", x.judge(0, -1), 100);
            bytes(x, 0, 0, 1);
            due("one is lacking", x.judge(0, 0), 102);
            due("otherwise ahead of the end", x.judge(0, 1), 0);
            bytes(x, 0, 2, 0);
            due("two are lacking", x.judge(0, 1), 101);
            due("at the end", x.judge(0, 2), 100);
            due("beyond the end", x.judge(0, 3), 100);
            due("far beyond", x.judge(0, MOST), 100);
            due("below 0", x.judge(0, -1), 100);
            due("far below", x.judge(0, LEAST), 100);
            bytes(x, 0);
            due("a row without items", x.judge(0, 0), 100);
            bytes(x, 0, 0, 1, 2);
            due("none is lacking", x.judge(0, 0), LACKING);
        });
    }
}
