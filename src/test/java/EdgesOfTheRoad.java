/** The boundary cases of the constants, of people, the road, the gate, and of what nothing is at first. */
final class EdgesOfTheRoad extends Sentences {
    static void all() {
        in("What it is");
        calls();
        in("The public face");
        constants();
        in("Terms");
        people();
        kinds();
        gate();
    }

    private static void calls() {
        edge("An object is used for at most 512 calls after it has been made", x -> {
            for (int call = 1; call <= 512; call++) {
                due("pass as call " + call, x.pass(1), call);
            }
        });
    }

    private static void constants() {
        edge("public static final int NONE = -1, BAD = -2, STATE = -3, FULL = -4;", x -> {
            due("NONE", LaughingGate.NONE, -1);
            due("BAD", LaughingGate.BAD, -2);
            due("STATE", LaughingGate.STATE, -3);
            due("FULL", LaughingGate.FULL, -4);
        });
        edge("public static final long NO = Long.MIN_VALUE;", x -> due("NO", LaughingGate.NO, -9223372036854775807L - 1));
    }

    private static void people() {
        edge("PEOPLE 0 .. 5, as they come", x -> {
            due("nobody is the first", x.of(0, 0), NO_NUMBER);
            for (int person = 0; person < 6; person++) {
                due("one", x.one(0, 0, 0), person);
            }
            due("a seventh", x.one(0, 0, 0), FULL);
            due("the sixth", x.of(5, 0), 0);
            due("the seventh", x.of(6, 0), NO_NUMBER);
            due("ahead of the first", x.of(-1, 0), NO_NUMBER);
        });
        edge("each at the end of THE ROAD (the row of all who are not IN; place 0 is at the gate)", x -> {
            crowd(x, 3);
            road(x, 0, 1, 2);
            x.pass(1);
            road(x, 1, 2);
            due("one", x.one(0, 0, 0), 3);
            due("its place", x.of(3, 4), 2);
            road(x, 1, 2, 3);
            x.pass(3);
            road(x);
            due("one on an empty road", x.one(0, 0, 0), 4);
            due("its place", x.of(4, 4), 0);
        });
        edge("with a number v (0 .. 9)", x -> {
            due("v below", x.one(0, -1, 0), BAD);
            due("v above", x.one(0, 10, 0), BAD);
            due("the least v", x.one(0, 0, 5), 0);
            due("the greatest v", x.one(0, 9, 5), 1);
            due("the least v", x.of(0, 1), 0);
            due("the greatest v", x.of(1, 1), 9);
        });
        edge("a MIRTH (0 .. 9)", x -> {
            due("mirth below", x.one(0, 0, -1), BAD);
            due("mirth above", x.one(0, 0, 10), BAD);
            due("the least mirth", x.one(0, 5, 0), 0);
            due("the greatest mirth", x.one(0, 5, 9), 1);
            due("the least mirth", x.of(0, 2), 0);
            due("the greatest mirth", x.of(1, 2), 9);
        });
        edge("IN, or not (not at first)", x -> {
            x.one(0, 0, 0);
            due("in", x.of(0, 3), 0);
            due("place", x.of(0, 4), 0);
            due("how many are in", x.told(9), 0);
            x.pass(1);
            due("in", x.of(0, 3), 1);
            due("how many are in", x.told(9), 1);
        });
    }

    /** One of the kind, and for which kinds it can be taken. */
    private static void takenFor(int kind, String kinds) {
        LaughingGate x = new LaughingGate();
        x.one(kind, 0, 0);
        due("kind", x.of(0, 0), kind);
        for (int k = 0; k <= 6; k++) {
            due("kind " + kind + " taken for " + k, x.taken(0, k), kinds.indexOf('0' + k) >= 0 ? kind : CAST);
        }
    }

    private static void kinds() {
        edge("are of KINDS: 0 ONE;", x -> {
            takenFor(0, "0");
            due("a kind below", x.one(-1, 0, 0), NONE);
        });
        edge("1 TRADER, 2 BISHOP, 3 CHILD under ONE;", x -> {
            takenFor(1, "01");
            takenFor(2, "02");
            takenFor(3, "03");
        });
        edge("4 FRIEND under TRADER;", x -> takenFor(4, "014"));
        edge("5 WIDOW under BISHOP;", x -> takenFor(5, "025"));
        edge("6 TOLD under CHILD;", x -> {
            takenFor(6, "036");
            due("a kind above", x.one(7, 0, 0), NONE);
        });
    }

    private static void gate() {
        edge("DOWN: 0 .. 99 (0 at first: the gate is up)", x -> {
            due("at first", x.told(3), 0);
            crowd(x, 2);
            x.pass(1);
            due("the gate was up", x.told(9), 1);
            due("below", x.down(-1), BAD);
            due("above", x.down(100), BAD);
            due("the greatest", x.down(99), 0);
            x.pass(60);
            x.pass(39);
            due("down for 99 hours", x.told(9), 1);
            due("behind 99 hours", x.told(3), 0);
            x.pass(1);
            due("then the next is in", x.told(9), 2);
            due("the least", x.down(0), 0);
        });
        edge("FALLS: 0 .. 9999 (0 at first)", x -> {
            due("at first", x.told(4), 0);
            crowd(x, 2);
            city(x, "tickle 99 p=1");
            for (int i = 0; i < 166; i++) {
                x.pass(60);
            }
            x.pass(38);
            due("one less than the most", x.told(4), 9998);
            x.pass(1);
            due("the most", x.told(4), 9999);
        });
        edge("HOUR: 0 at first", x -> {
            due("at first", x.told(0), 0);
            x.one(0, 0, 0);
            x.see(0, 0, true);
            due("still", x.told(0), 0);
        });
    }
}
