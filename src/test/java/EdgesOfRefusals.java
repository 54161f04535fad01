import java.util.ArrayList;
import java.util.List;

/** The boundary cases of refusals: which one is named first, and that neither they nor what is asked change anything. */
final class EdgesOfRefusals extends Sentences {
    static void all() {
        in("Terms");
        host();
        answers();
        firstNamed();
        refusedChangesNothing();
        askedChangesNothing();
    }

    private static void host() {
        edge("The host's refusals: NOTHING (-11): nothing is there;", x -> {
            due("taken", x.taken(0, 0), -11);
            due("item", x.item(0, 0, 0), -11);
            due("shift", x.shift(0, 0, 1, 0, 0), -11);
            x.tape(0, 0, 0);
            due("shift to nothing", x.shift(0, 0, 1, 0, 0), -11);
            due("shift from nothing", x.shift(1, 0, 0, 0, 0), -11);
            due("a row of no items is not nothing", x.item(0, 0, 0), -13);
            x.tape(0, -1, 0);
            due("nothing again", x.item(0, 0, 0), -11);
        });
        edge("CAST (-12): another sort or KIND;", x -> {
            crowd(x, 1);
            due("taken", x.taken(0, 1), -12);
            x.tape(0, 1, 0);
            x.tape(1, 0, 0);
            due("shift", x.shift(0, 0, 1, 0, 0), -12);
            due("judge", x.judge(0, 0), -12);
        });
        edge("PLACE (-13): no such place;", x -> {
            x.tape(0, 0, 2);
            due("item below", x.item(0, -1, 0), -13);
            due("item above", x.item(0, 2, 0), -13);
            due("the last", x.item(0, 1, 0), 1);
            due("shift", x.shift(0, 0, 0, 1, 2), -13);
        });
        edge("SIZE (-14): a size below 0.", x -> {
            due("just below", x.tape(0, 0, -1), -14);
            due("far below", x.tape(0, 4, LEAST), -14);
            due("not below", x.tape(0, 0, 0), 1);
        });
    }

    private static void answers() {
        edge("Answers: NONE (-1) no such number;", x -> {
            due("one", x.one(7, 0, 0), -1);
            due("cheer", x.cheer(0, 0), -1);
            due("told", x.told(10), -1);
            due("trace", x.trace(0), -1);
        });
        edge("BAD (-2) a number is not as told;", x -> {
            due("one", x.one(0, 10, 0), -2);
            due("down", x.down(100), -2);
            due("pass", x.pass(61), -2);
            due("count", x.count(8), -2);
        });
        edge("STATE (-3) as told;", x -> {
            crowd(x, 1);
            due("again", x.again(0), -3);
            due("row", x.row(0, 0, 0), -3);
            due("undo", x.undo(), -3);
        });
        edge("FULL (-4);", x -> {
            crowd(x, 6);
            due("one", x.one(0, 0, 0), -4);
            for (int i = 0; i < 10; i++) {
                x.plan(0, 0);
            }
            due("plan", x.plan(0, 0), -4);
        });
        edge("Where it may be below 0, -10001 stands for NONE.", x -> {
            due("nobody", x.of(0, 0), -10001);
            x.one(0, 0, 9);
            city(x, "sober 10 p=0");
            due("an urge of -1 is none of the answers", x.of(0, 10), -1);
            due("what below", x.of(0, -1), -10001);
            due("what between", x.of(0, 8), -10001);
            due("what between", x.of(0, 9), -10001);
            due("what above", x.of(0, 13), -10001);
            x.pass(1);
            due("urge of who is in", x.of(0, 10), -10001);
        });
        edge("The constants: `NO = Long.MIN_VALUE`: There is no such number.", x -> {
            due("mean", x.mean(0), LaughingGate.NO);
            due("odds", x.odds(1, 0), LaughingGate.NO);
            due("read", x.read(0, 0), Long.MIN_VALUE);
        });
    }

    private static void firstNamed() {
        edge("the first that a call's words name.", x -> {
            fullOfAll(x);
            due("one: kind, v, full", x.one(7, 10, 10), NONE);
            due("one: v, full", x.one(0, 10, 0), BAD);
            due("one: mirth, full", x.one(0, 0, -1), BAD);
            due("one: full", x.one(0, 0, 0), FULL);
            due("cheer: person, n", x.cheer(6, 10), NONE);
            due("swap: both no one", x.swap(6, 6), NONE);
            due("swap: the other no one, the first in", x.swap(0, 6), NONE);
            due("swap: one is both, and in", x.swap(0, 0), BAD);
            due("swap: one is in", x.swap(0, 1), STATE);
            due("swap: the other is in", x.swap(1, 0), STATE);
            due("row: person, n", x.row(6, 0, 10), NONE);
            due("row: part, n, kind", x.row(0, 4, 10), NONE);
            due("row: n, kind", x.row(0, 0, 10), BAD);
            due("row: kind", x.row(0, 0, 0), STATE);
            due("feed: sign, full", x.feed(128), BAD);
            due("feed: full", x.feed(0), FULL);
            due("city: full, and a fault", x.city(), FULL);
            due("on: what, n", x.on(61, 3), NONE);
            due("on: no such person, n", x.on(61, 16), NONE);
            due("on: n", x.on(61, 15), BAD);
        });
        edge("the first that a call's words name.", x -> {
            fullOfAll(x);
            due("see: person, n, full", x.see(6, 13, true), NONE);
            due("see: n, full", x.see(0, 13, true), BAD);
            due("see: full", x.see(0, 0, true), FULL);
            due("plan: what, full", x.plan(4, 0), NONE);
            due("plan: person, full", x.plan(2, 6), NONE);
            due("plan: full", x.plan(0, 6), FULL);
            due("book: person, mirth, full", x.book(6, 10), NONE);
            due("book: mirth, full", x.book(0, 10), BAD);
            due("book: full", x.book(0, 0), FULL);
            due("judge: tape", x.judge(6, -1), NONE);
            due("judge: sort, place below 0", x.judge(1, -1), CAST);
            due("taken: k, person", x.taken(6, 7), BAD);
            due("taken: person", x.taken(6, 6), NOTHING);
            due("taken: kind", x.taken(0, 6), CAST);
            due("tape: tape, sort, size", x.tape(6, 5, -1), NONE);
            due("tape: tape, nothing", x.tape(-1, -1, 0), NONE);
            due("tape: sort, size", x.tape(0, 5, -1), BAD);
            due("tape: size", x.tape(0, 4, -1), SIZE);
            due("item: tape, place", x.item(6, -1, 0), NONE);
            due("item: nothing, place", x.item(5, -1, 0), NOTHING);
            due("item: place", x.item(0, -1, 0), PLACE);
            due("shift: no tape, nothing", x.shift(5, -1, 6, -1, -1), NONE);
            due("shift: no tape, nothing", x.shift(-1, -1, 5, -1, -1), NONE);
            due("shift: nothing, place", x.shift(5, -1, 0, -1, -1), NOTHING);
            due("shift: nothing, place", x.shift(0, -1, 5, -1, -1), NOTHING);
            due("shift: sorts, place", x.shift(0, -1, 1, -1, -1), CAST);
            due("shift: place", x.shift(0, -1, 0, -1, -1), PLACE);
        });
        edge("the first that a call's words name.", x -> {
            hourBecomes(x, 9999);
            due("pass: n, and above", x.pass(61), BAD);
            due("pass: n, and above", x.pass(-1), BAD);
            due("pass: above", x.pass(60), STATE);
        });
        edge("the first that a call's words name.", x -> {
            // Nobody is on the road, which is answered only if nothing is refused.
            x.tape(0, 4, 0);
            due("judge: sort, nobody there", x.judge(0, 0), CAST);
            due("judge: tape, nobody there", x.judge(6, 0), NONE);
            due("judge: nobody there", x.judge(1, 0), LACKING);
        });
    }

    /** As much of everything as there may be: six people with 0 in, six cities, a full text, full rows. */
    private static void fullOfAll(LaughingGate x) {
        for (int kind = 1; kind <= 5; kind++) {
            x.one(kind, kind, kind);
        }
        x.one(6, 6, 6);
        x.row(5, 1, 7);
        for (int i = 0; i < 6; i++) {
            city(x, "near " + i);
        }
        for (int i = 0; i < 100; i++) {
            x.feed('n');
        }
        x.pass(1);
        for (int i = 0; i < 5; i++) {
            x.see(i, i, i < 3);
        }
        for (int i = 0; i < 10; i++) {
            x.plan(i % 4, i % 6);
        }
        for (int i = 0; i < 8; i++) {
            x.book(i % 6, i);
        }
        bytes(x, 0, 1, 2, 3, 4, 5);
        fill(x, 1, 1, 9, 8, 7);
        x.act(5, 1, 3);
    }

    /** Some of everything, and an image that is otherwise. */
    private static void someOfAll(LaughingGate x) {
        x.one(6, 4, 6);
        x.one(1, 5, 5);
        x.one(4, 3, 8);
        x.one(0, 1, 2);
        x.row(0, 2, 7);
        city(x, "near 2;wind 3");
        x.see(1, 1, true);
        x.plan(0, 0);
        x.book(2, 8);
        x.image();
        x.pass(2);
        x.swap(2, 3);
        x.see(0, 0, true);
        x.plan(2, 2);
        x.plan(0, 0);
        x.book(3, 1);
        city(x, "wind 4;tickle 3 k>3|m=7");
        for (char sign : "near 5".toCharArray()) {
            x.feed(sign);
        }
        bytes(x, 0, 3, 2, 1);
        fill(x, 1, 4, 1, 0);
        fill(x, 2, 2, 5, 6);
        x.act(0, 1, 3);
    }

    private static void add(StringBuilder all, long answer) {
        all.append(' ').append(answer);
    }

    /** All that can be asked, then what is only seen by going on; no more than 300 calls. */
    private static String lookedAll(LaughingGate x) {
        StringBuilder all = new StringBuilder();
        for (int i = 0; i < 12; i++) {
            add(all, x.trace(i));
        }
        for (int what = 0; what < 16; what++) {
            add(all, x.told(what));
        }
        for (int person = 0; person < 6; person++) {
            for (int what = 0; what <= 12; what++) {
                add(all, x.of(person, what));
            }
            add(all, x.can(person, 1));
        }
        for (int what = 0; what < 8; what++) {
            add(all, x.count(what));
        }
        for (int tape = 0; tape < 6; tape++) {
            for (int i = 0; i < 4; i++) {
                add(all, x.read(tape, i));
            }
        }
        add(all, x.ends(0));
        add(all, x.ends(1));
        add(all, x.looked());
        goOn(x, all);
        return all.toString();
    }

    private static void goOn(LaughingGate x, StringBuilder all) {
        for (int part = 0; part < 4; part++) {
            for (int person = 0; person < 6; person++) {
                add(all, x.row(person, part, 0));
            }
        }
        add(all, x.city());
        add(all, x.told(1));
        for (int tape = 0; tape < 6; tape++) {
            // Tells sorts apart, also of rows without items.
            add(all, x.judge(tape, 0));
            add(all, x.item(tape, 0, 1L << 40 | 1 << 17 | 1 << 9 | 3));
            add(all, x.read(tape, 0));
        }
        add(all, x.undo());
        for (int what = 0; what < 16; what++) {
            add(all, x.told(what));
        }
        for (int person = 0; person < 6; person++) {
            add(all, x.of(person, 2));
            add(all, x.of(person, 7));
        }
        add(all, x.ends(0));
        add(all, x.looked());
    }

    private interface Call {
        long on(LaughingGate x);
    }

    private static final class Refused {
        final String call;
        final long due;
        final Call made;

        Refused(String call, long due, Call made) {
            this.call = call;
            this.due = due;
            this.made = made;
        }
    }

    private static void likeUnasked(String call, Test before, Call made, long due) {
        LaughingGate asked = new LaughingGate();
        before.on(asked);
        due(call, made.on(asked), due);
        LaughingGate unasked = new LaughingGate();
        before.on(unasked);
        due("all behind " + call, lookedAll(asked), lookedAll(unasked));
    }

    private static void refusedChangesNothing() {
        edge("What is answered so changes nothing;", x -> {
            for (Refused refused : whenFull()) {
                likeUnasked(refused.call, EdgesOfRefusals::fullOfAll, refused.made, refused.due);
            }
            for (Refused refused : refusedAlways()) {
                likeUnasked(refused.call, EdgesOfRefusals::someOfAll, refused.made, refused.due);
            }
            likeUnasked("pass", EdgesOfRefusals::lateHour, y -> y.pass(2), STATE);
            likeUnasked("pass", EdgesOfRefusals::lateHour, y -> y.pass(60), STATE);
            likeUnasked("undo", y -> crowd(y, 1), y -> y.undo(), STATE);
        });
        edge("What is answered so changes nothing;", x -> {
            // A refused act is the one that is told to change: there is no trace then.
            someOfAll(x);
            due("act", x.act(4, 0, 0), 0);
            trace(x);
        });
    }

    private static void lateHour(LaughingGate x) {
        crowd(x, 2);
        hourBecomes(x, 9998);
        x.down(0);
    }

    private static List<Refused> whenFull() {
        List<Refused> all = new ArrayList<>();
        all.add(new Refused("one", FULL, x -> x.one(6, 9, 9)));
        all.add(new Refused("feed", FULL, x -> x.feed('x')));
        all.add(new Refused("city", FULL, x -> x.city()));
        all.add(new Refused("see", FULL, x -> x.see(5, 0, true)));
        all.add(new Refused("plan", FULL, x -> x.plan(0, 0)));
        all.add(new Refused("book", FULL, x -> x.book(1, 1)));
        all.add(new Refused("swap", STATE, x -> x.swap(0, 1)));
        all.add(new Refused("swap", STATE, x -> x.swap(1, 0)));
        return all;
    }

    private static List<Refused> refusedAlways() {
        List<Refused> all = new ArrayList<>();
        all.add(new Refused("one", NONE, x -> x.one(7, 0, 0)));
        all.add(new Refused("one", BAD, x -> x.one(0, 10, 0)));
        all.add(new Refused("one", BAD, x -> x.one(0, 0, 10)));
        all.add(new Refused("cheer", NONE, x -> x.cheer(4, 0)));
        all.add(new Refused("cheer", BAD, x -> x.cheer(2, 10)));
        all.add(new Refused("swap", NONE, x -> x.swap(2, 4)));
        all.add(new Refused("swap", BAD, x -> x.swap(2, 2)));
        all.add(new Refused("swap", STATE, x -> x.swap(0, 2)));
        all.add(new Refused("again", NONE, x -> x.again(4)));
        all.add(new Refused("again", STATE, x -> x.again(2)));
        all.add(new Refused("down", BAD, x -> x.down(100)));
        all.add(new Refused("row", NONE, x -> x.row(4, 2, 1)));
        all.add(new Refused("row", NONE, x -> x.row(0, 4, 1)));
        all.add(new Refused("row", BAD, x -> x.row(0, 2, 10)));
        all.add(new Refused("row", STATE, x -> x.row(1, 2, 1)));
        all.add(new Refused("feed", BAD, x -> x.feed(128)));
        all.add(new Refused("pass", BAD, x -> x.pass(61)));
        all.add(new Refused("see", NONE, x -> x.see(4, 0, true)));
        all.add(new Refused("see", BAD, x -> x.see(2, 13, true)));
        all.add(new Refused("plan", NONE, x -> x.plan(4, 0)));
        all.add(new Refused("plan", NONE, x -> x.plan(1, 4)));
        all.add(new Refused("book", NONE, x -> x.book(4, 0)));
        all.add(new Refused("book", BAD, x -> x.book(0, 10)));
        all.add(new Refused("tape", NONE, x -> x.tape(6, 0, 1)));
        all.add(new Refused("tape", BAD, x -> x.tape(0, 5, 1)));
        all.add(new Refused("tape", BAD, x -> x.tape(0, 1, 61)));
        all.add(new Refused("tape", SIZE, x -> x.tape(0, 1, -1)));
        all.add(new Refused("item", NONE, x -> x.item(6, 0, 1)));
        all.add(new Refused("item", NOTHING, x -> x.item(5, 0, 1)));
        all.add(new Refused("item", PLACE, x -> x.item(0, 3, 1)));
        all.add(new Refused("shift", NONE, x -> x.shift(0, 0, 6, 0, 1)));
        all.add(new Refused("shift", NOTHING, x -> x.shift(0, 0, 5, 0, 1)));
        all.add(new Refused("shift", CAST, x -> x.shift(0, 0, 1, 0, 1)));
        all.add(new Refused("shift", PLACE, x -> x.shift(0, 1, 0, 0, 3)));
        return all;
    }

    private static void asked(String call, Call made) {
        LaughingGate once = new LaughingGate();
        someOfAll(once);
        likeUnasked(call, EdgesOfRefusals::someOfAll, made, made.on(once));
    }

    private static void askedChangesNothing() {
        edge("and changes nothing.", x -> {
            for (int i = 0; i <= 5; i++) {
                int n = i * 12;
                asked("on DOWN", y -> y.on(n, 0));
                asked("on FALLS", y -> y.on(n, 1));
                asked("on IN", y -> y.on(n, 2));
                asked("on MIRTH", y -> y.on(n, 12));
                asked("turn", y -> y.turn(1 + n / 6));
                asked("odds", y -> y.odds(1 + n / 4, 0));
            }
            for (int i = 0; i < 2; i++) {
                int what = i;
                asked("can", y -> y.can(2, what));
                asked("mean", y -> y.mean(what));
                asked("ends", y -> y.ends(what));
            }
            asked("looked", y -> y.looked());
        });
        edge("what is asked changes nothing.", x -> {
            for (int i = 0; i <= 15; i++) {
                int what = i;
                asked("told", y -> y.told(what));
                asked("of", y -> y.of(2, what));
                asked("of one who is in", y -> y.of(0, what));
                asked("trace", y -> y.trace(what));
                asked("count", y -> y.count(what));
            }
            for (int i = 0; i < 4; i++) {
                int place = i;
                asked("judge", y -> y.judge(0, place));
                asked("judge", y -> y.judge(place, 0));
                asked("read", y -> y.read(0, place));
                asked("taken", y -> y.taken(2, place));
            }
        });
    }
}
