/** The boundary cases of urges, of who laughs, and of an hour that goes. */
final class EdgesOfHours extends Sentences {
    static void all() {
        in("Terms");
        urges();
        laughs();
        goingIn();
        falling();
        mirthAndHour();
    }

    private static void urges() {
        edge("URGE of one, j of those next to it on THE ROAD laughing (0 .. 2; may be below 0): ONE: SUM and 3 times j.", x -> {
            x.one(0, 9, 4);
            urges(x, 0, 4, 7, 10);
            due("j below", x.of(0, 9), NO_NUMBER);
            due("j above", x.of(0, 13), NO_NUMBER);
            city(x, "sober 9 p=0");
            urges(x, 0, -5, -2, 1);
        });
        edge("TRADER: as ONE, and v.", x -> {
            x.one(1, 0, 4);
            x.one(1, 9, 0);
            urges(x, 0, 4, 7, 10);
            urges(x, 1, 9, 12, 15);
            city(x, "sober 20 p=1");
            urges(x, 1, -11, -8, -5);
        });
        edge("BISHOP: the half (cut toward 0) of what it is of ONE.", x -> {
            x.one(2, 9, 7);
            urges(x, 0, 3, 5, 6);
            x.cheer(0, 1);
            urges(x, 0, 0, 2, 3);
            x.cheer(0, 0);
            city(x, "sober 1 p=0");
            urges(x, 0, 0, 1, 2);
            city(x, "sober 7 p=0");
            urges(x, 0, -3, -2, 0);
            city(x, "sober 8 p=0");
            urges(x, 0, -4, -2, -1);
        });
        edge("CHILD: as ONE, and 2 times j.", x -> {
            x.one(3, 9, 4);
            urges(x, 0, 4, 9, 14);
            city(x, "sober 14 p=0");
            urges(x, 0, -10, -5, 0);
        });
        edge("FRIEND: as TRADER; twice that, if j is 2.", x -> {
            x.one(4, 4, 1);
            x.one(4, 0, 0);
            urges(x, 0, 5, 8, 22);
            urges(x, 1, 0, 3, 12);
            city(x, "sober 20 p=0");
            urges(x, 0, -15, -12, -18);
        });
        edge("WIDOW: as BISHOP, less 4, if HOUR modulo 4 is 0.", x -> {
            x.one(5, 9, 0);
            city(x, "near 0");
            for (int hour = 0; hour <= 13; hour++) {
                hourBecomes(x, hour);
                x.cheer(0, 9);
                int less = hour == 0 || hour == 4 || hour == 8 || hour == 12 ? 4 : 0;
                urges(x, 0, 4 - less, 6 - less, 7 - less);
            }
            // 9 less 12 is -3, and 0 by one: the half is cut toward 0 before 4 are taken.
            city(x, "sober 12 p=0");
            hourBecomes(x, 16);
            x.cheer(0, 9);
            urges(x, 0, -5, -4, -3);
        });
        edge("TOLD: as CHILD, and its ROW (four numbers 0 .. 9; 0 at first) at HOUR modulo 4 more, less 4.", x -> {
            x.one(6, 9, 0);
            city(x, "near 0");
            for (int hour = 0; hour < 4; hour++) {
                hourBecomes(x, hour);
                x.cheer(0, 5);
                urges(x, 0, 1, 6, 11);
            }
            x.row(0, 0, 9);
            x.row(0, 1, 1);
            x.row(0, 2, 2);
            x.row(0, 3, 3);
            int[] row = {9, 1, 2, 3};
            for (int hour = 4; hour < 13; hour++) {
                hourBecomes(x, hour);
                x.cheer(0, 5);
                int more = row[hour % 4];
                urges(x, 0, 1 + more, 6 + more, 11 + more);
            }
        });
    }

    private static void laughs() {
        edge("Who LAUGHS: first, all on THE ROAD whose URGE is 10 or more, nobody laughing (j 0);", x -> {
            x.one(1, 1, 8);
            due("by 9", x.told(5), 0);
            x.cheer(0, 9);
            due("by 10", x.told(5), 1);
            crowd(x, 1);
            x.one(1, 9, 9);
            due("all of them", x.told(5), 5);
            // The first is in then, and laughs no more.
            city(x, "near 0");
            x.pass(1);
            x.cheer(2, 9);
            due("who is in does not", x.told(5), 4);
            due("its urge", x.of(0, 10), NO_NUMBER);
        });
        edge("Who LAUGHS: first, all on THE ROAD whose URGE is 10 or more, nobody laughing (j 0);", x -> {
            // Each would laugh by the other one: so nobody begins.
            x.one(0, 0, 9);
            x.one(0, 0, 9);
            due("nobody", x.told(5), 0);
            due("at place 0", x.of(0, 5), 0);
        });
        edge("then, again and again, all whose URGE is 10 or more by those who laugh already, too, till nobody more does", x -> {
            for (int person = 0; person < 5; person++) {
                x.one(0, 0, 7);
            }
            x.one(1, 9, 1);
            due("from the end to the gate", x.told(5), 63);
            x.swap(0, 5);
            due("from the gate to the end", x.told(5), 63);
            x.cheer(3, 6);
            due("6 and 3 are not enough", x.told(5), 32 + 2 + 4);
            x.swap(0, 4);
            due("whoever is behind that one", x.told(5), 32 + 2 + 4);
        });
        edge("then, again and again, all whose URGE is 10 or more by those who laugh already, too, till nobody more does", x -> {
            x.one(1, 9, 9);
            x.one(0, 0, 7);
            x.one(0, 0, 4);
            x.one(0, 0, 7);
            x.one(1, 9, 9);
            due("two are enough", x.told(5), 31);
            x.cheer(2, 3);
            due("3 and 6 are not", x.told(5), 27);
            x.cheer(2, 9);
            x.cheer(1, 6);
            x.cheer(3, 6);
            due("nobody laughs next to the third", x.told(5), 17);
        });
        edge("(who laughs goes on laughing)", x -> {
            // The first begins alone, and still laughs when the last does.
            x.one(1, 9, 1);
            x.one(0, 0, 9);
            x.one(0, 0, 7);
            due("all", x.told(5), 7);
            due("the first", x.of(0, 5), 1);
            due("the last", x.of(2, 5), 1);
        });
        edge("(who laughs goes on laughing)", x -> {
            // Next to it is who is next on the road, whatever their numbers.
            x.one(0, 0, 7);
            crowd(x, 1);
            x.one(1, 9, 9);
            due("not by one between", x.told(5), 4);
            x.swap(0, 1);
            due("next to who laughs", x.told(5), 5);
        });
    }

    private static void goingIn() {
        edge("An HOUR goes: first, if DOWN is 0 and there is anybody on THE ROAD, the one at place 0 is IN, all others are one place on.", x -> {
            crowd(x, 3);
            x.swap(0, 2);
            x.down(1);
            x.pass(1);
            road(x, 2, 1, 0);
            due("down", x.told(3), 0);
            x.pass(1);
            road(x, 1, 0);
            due("in", x.of(2, 3), 1);
            due("the others", x.told(9), 1);
            x.pass(2);
            road(x);
            due("in", x.told(9), 3);
        });
        edge("An HOUR goes: first, if DOWN is 0 and there is anybody on THE ROAD, the one at place 0 is IN, all others are one place on.", x -> {
            due("an hour with nobody", x.pass(1), 1);
            due("in", x.told(9), 0);
            crowd(x, 1);
            x.pass(1);
            due("an hour when all are in", x.pass(1), 3);
            due("in", x.told(9), 1);
            due("on the road", x.count(1), 0);
        });
    }

    /** Who laughs at this place, behind sober ones, while the gate is down: whether it falls by that. */
    private static void falls(String text, int place, int due) {
        LaughingGate x = new LaughingGate();
        crowd(x, place);
        laugher(x);
        if (!text.isEmpty()) {
            isCity(x, text);
        }
        x.down(7);
        x.pass(1);
        due("falls by a laugh at place " + place + " with '" + text + "'", x.told(4), due);
        due("down", x.told(3), due == 1 ? x.told(2) : 6);
    }

    private static void falling() {
        edge("Then, of those on THE ROAD then, if one of those who LAUGH is at a place below NEAR,", x -> {
            falls("", 0, 1);
            falls("", 2, 1);
            falls("", 3, 0);
            falls("near 0", 0, 0);
            falls("near 1", 0, 1);
            falls("near 1", 1, 0);
            falls("near 5", 4, 1);
            falls("near 5", 5, 0);
            falls("near 6", 5, 1);
            falls("near 99", 5, 1);
            falls("near 32", 5, 1);
            falls("near 33", 0, 1);
        });
        edge("Then, of those on THE ROAD then, if one of those who LAUGH is at a place below NEAR,", x -> {
            // Who went in does not laugh, and makes nobody laugh.
            laugher(x);
            x.one(0, 0, 9);
            x.pass(1);
            due("falls", x.told(4), 0);
            due("mirth of who is in", x.of(0, 2), 9);
            due("mirth of who was next", x.of(1, 2), 9);
            // The others are one place nearer by then.
            LaughingGate y = new LaughingGate();
            crowd(y, 3);
            laugher(y);
            y.pass(1);
            due("falls by who comes to place 2", y.told(4), 1);
            y = new LaughingGate();
            crowd(y, 4);
            laugher(y);
            y.pass(1);
            due("falls by who comes to place 3", y.told(4), 0);
        });
        edge("DOWN is WIND and FALLS are 1 more (9999 at most);", x -> {
            laugher(x);
            x.down(99);
            x.pass(1);
            due("down was more", x.told(3), 2);
            x.down(1);
            x.cheer(0, 9);
            x.pass(1);
            due("down was less", x.told(3), 2);
            due("falls", x.told(4), 2);
            laugher(x);
            laugher(x);
            x.cheer(0, 9);
            x.pass(1);
            due("three laugh: one fall", x.told(4), 3);
            city(x, "wind 0");
            x.cheer(0, 9);
            x.pass(1);
            due("no winding", x.told(3), 0);
            due("falls", x.told(4), 4);
            x.pass(1);
            due("in", x.told(9), 1);
            city(x, "wind 99");
            x.cheer(2, 9);
            x.pass(1);
            due("long winding", x.told(3), 99);
            due("falls", x.told(4), 5);
        });
        edge("DOWN is WIND and FALLS are 1 more (9999 at most);", x -> {
            crowd(x, 2);
            city(x, "tickle 99 p=1;wind 99");
            for (int i = 0; i < 166; i++) {
                x.pass(60);
            }
            due("falls", x.told(4), 9960);
            due("down", x.told(3), 99);
            x.pass(39);
            due("the most", x.told(4), 9999);
            due("no hour more", x.pass(1), STATE);
            due("the most", x.told(4), 9999);
        });
        edge("else DOWN is 1 less, if it was above 0.", x -> {
            x.down(2);
            x.pass(1);
            due("nobody is there", x.told(3), 1);
            x.pass(1);
            due("down", x.told(3), 0);
            x.pass(1);
            due("not below 0", x.told(3), 0);
            crowd(x, 3);
            laugher(x);
            x.down(2);
            x.pass(1);
            due("by a laugh that is not near", x.told(3), 1);
            due("falls", x.told(4), 0);
        });
    }

    private static void mirthAndHour() {
        edge("MIRTH of each who LAUGHS is 0, of each other one on THE ROAD 1 more (9 at most).", x -> {
            x.one(0, 0, 5);
            x.one(0, 0, 8);
            x.one(0, 0, 9);
            x.one(0, 0, 0);
            laugher(x);
            x.down(1);
            x.pass(1);
            due("8", x.of(1, 2), 9);
            due("9", x.of(2, 2), 9);
            due("0", x.of(3, 2), 1);
            due("who laughed, far away", x.of(4, 2), 0);
            due("5", x.of(0, 2), 6);
            x.pass(1);
            due("who went in keeps it", x.of(0, 2), 6);
            due("who laughed and does not now", x.of(4, 2), 1);
            x.pass(1);
            due("who went in keeps it", x.of(0, 2), 6);
            due("who laughs again", x.of(4, 2), 0);
        });
        edge("HOUR is 1 more.", x -> {
            // At the end of it: this hour is still the one that tickles.
            LaughingGate y = new LaughingGate();
            crowd(y, 2);
            city(y, "tickle 99 h=0");
            y.pass(1);
            due("falls in hour 0", y.told(4), 1);
            y.pass(1);
            due("none in hour 1", y.told(4), 1);
            due("an hour", x.pass(1), 1);
            due("no hour", x.pass(0), 1);
            crowd(x, 1);
            due("two hours", x.pass(2), 3);
            due("hour", x.told(0), 3);
            x.down(9);
            due("while the gate is down", x.pass(1), 4);
        });
    }
}
