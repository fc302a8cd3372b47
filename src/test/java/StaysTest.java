import java.util.ArrayList;
import java.util.List;
import java.util.Set;
import java.util.TreeSet;

/** What each call changes, and what it leaves as it was: by the parts of an object of which each holds something. */
public final class StaysTest {
    private static final int STATE = -5;
    private static final Due DUE = new Due();

    /** A part of an object, and how it is told; the object is used up by that. */
    record Part(String name, Teller teller) { }

    interface Teller {
        void tell(StringBuilder text, NineCarts x);
    }

    /** A call, and the names of the parts that are others behind it. */
    record Asked(String call, Look.Call on, String... changed) { }

    private static final Part[] PARTS = {
        new Part("villages", StaysTest::villages),
        new Part("loaves", (text, x) -> add(text, x.of(0, 0), x.of(1, 0))),
        new Part("mix 0", (text, x) -> mix(text, x, 0)),
        new Part("mix 1", (text, x) -> mix(text, x, 1)),
        new Part("image", StaysTest::image),
        new Part("law", StaysTest::law),
        new Part("tape", StaysTest::tape),
        new Part("undone", StaysTest::undone),
        new Part("again", StaysTest::again),
        new Part("bodies", StaysTest::bodies),
        new Part("trace", StaysTest::trace),
        new Part("shelf 0", (text, x) -> shelf(text, x, 0)),
        new Part("shelf 1", (text, x) -> shelf(text, x, 1)),
        new Part("shelf 2", (text, x) -> shelf(text, x, 2)),
        new Part("shelf 3", (text, x) -> shelf(text, x, 3)),
        new Part("shelf 4", (text, x) -> shelf(text, x, 4)),
        new Part("shelf 5", (text, x) -> shelf(text, x, 5)),
    };

    private static final Asked[] CHANGING = {
        new Asked("village", x -> x.village(4, 12), "villages"),
        new Asked("mend", x -> x.mend(0, 0, 3), "loaves", "undone", "again"),
        new Asked("mend", x -> x.mend(1, 0, 0), "loaves", "undone", "again"),
        new Asked("mend", x -> x.mend(1, 1, 6), "villages", "undone", "again"),
        new Asked("mend", x -> x.mend(1, 2, 6), "villages", "undone", "again"),
        new Asked("mend", x -> x.mend(0, 0, 6)),
        new Asked("mend", x -> x.mend(0, 1, 7)),
        new Asked("mend", x -> x.mend(1, 2, 0)),
        new Asked("mix", x -> x.mix(0, 1, 1), "mix 0"),
        new Asked("mix", x -> x.mix(1, 1, 1), "mix 1"),
        new Asked("mix", x -> x.mix(0, 1, 0), "mix 0"),
        new Asked("mix", x -> x.mix(1, 1, 0), "mix 1"),
        new Asked("mixes", x -> x.mixes(1, 0, 1), "mix 0"),
        new Asked("mixes", x -> x.mixes(1, 4, 11)),
        new Asked("mixes", x -> x.mixes(5, 0, 11)),
        new Asked("feed", x -> x.feed('+'), "tape"),
        new Asked("law", x -> x.law(), "law", "tape"),
        new Asked("law", x -> x.feed('?') + x.law(), "tape"),
        new Asked("image", x -> x.image(), "image"),
        new Asked("back", x -> x.back(), "mix 0", "mix 1"),
        new Asked("undo", x -> x.undo(), "villages", "undone", "again"),
        new Asked("undo", x -> x.undo() + x.undo(), "villages", "loaves", "undone", "again"),
        new Asked("redo", x -> x.redo(), "villages", "undone", "again"),
        new Asked("body", x -> x.body(1), "bodies"),
        new Asked("act", x -> x.act(1, 1, 5), "trace"),
        new Asked("act", x -> x.act(3, 1, 5), "trace"),
        new Asked("act", x -> x.act(1, 4, 5), "trace"),
        new Asked("keep", x -> x.keep(0, -1), "shelf 0"),
        new Asked("keep", x -> x.keep(5, 0), "shelf 5"),
        new Asked("keep", x -> x.keep(1, 2), "shelf 1"),
        new Asked("keep", x -> x.keep(0, 0)),
        new Asked("row", x -> x.row(0, 2, 6), "shelf 0"),
        new Asked("row", x -> x.row(2, 4, 3), "shelf 2"),
        new Asked("row", x -> x.row(5, 3, 60), "shelf 5"),
        new Asked("put", x -> x.put(1, 5, 9), "shelf 1"),
        new Asked("put", x -> x.put(3, 1, 9), "shelf 3"),
        new Asked("shift", x -> x.shift(1, 0, 1, 1, 3), "shelf 1"),
        new Asked("shift", x -> x.shift(1, 0, 1, 1, 0)),
        new Asked("shift", x -> x.row(5, 3, 9) + x.shift(3, 0, 5, 8, 1), "shelf 5"),
    };

    private static final Asked[] ASKING = {
        new Asked("of", x -> x.of(0, 3)), new Asked("of", x -> x.of(1, 2)), new Asked("of", x -> x.of(2, 12)),
        new Asked("won", x -> x.won(2, 45)), new Asked("score", x -> x.score(123, 311)), new Asked("mean", x -> x.mean(1)),
        new Asked("best", x -> x.best(0)), new Asked("best", x -> x.best(1)), new Asked("line", x -> x.line(0, 9, 0)),
        new Asked("line", x -> x.line(1, -1, 1)), new Asked("spy", x -> x.spy(2, 0)), new Asked("broke", x -> x.broke(7, 0)),
        new Asked("beaten", x -> x.beaten(0, 21)), new Asked("beaten", x -> x.beaten(1, 221)), new Asked("safest", x -> x.safest(0, 0)),
        new Asked("safest", x -> x.safest(1, 1)), new Asked("ring", x -> x.ring(2)), new Asked("rest", x -> x.rest(1)),
        new Asked("sure", x -> x.sure(600)), new Asked("most", x -> x.most(0)), new Asked("fewest", x -> x.fewest(5)),
        new Asked("year", x -> x.year(0, 30)), new Asked("year", x -> x.year(1, 0)), new Asked("years", x -> x.years(30)),
        new Asked("trace", x -> x.trace(3)), new Asked("element", x -> x.element(3, 0)), new Asked("taken", x -> x.taken(0, 4)),
        new Asked("count", x -> x.count(2)), new Asked("count", x -> x.count(4)),
    };

    /** Look.busy(), and by a LAW in force less takes it; on THE TAPE stands another. */
    private static NineCarts all() {
        NineCarts x = Look.busy();
        x.law();
        Look.feed(x, "a-b-v");
        return x;
    }

    private static void add(StringBuilder text, long... answers) {
        for (long answer : answers) text.append(' ').append(answer);
    }

    private static void villages(StringBuilder text, NineCarts x) {
        add(text, x.count(0));
        for (int v = 0; v < 5; v++) add(text, x.of(v, 10), x.of(v, 11), x.of(v, 12));
    }

    /** How much of a MIX sends so many loaves to a VILLAGE, whatever a VILLAGE's WORTH or the other's MIX is. */
    private static void mix(StringBuilder text, NineCarts x, int baker) {
        add(text, x.of(baker, 1), x.of(baker, 2));
        x.law();
        for (int v = 0; v < 3; v++) {
            x.mend(v, 1, 1);
            for (int n = 1; n <= 4; n++) {
                Due.tell(x, "v=" + v + "&" + "ab".charAt(baker) + "=" + n);
                add(text, x.mean(0), x.mean(1));
            }
        }
    }

    private static void image(StringBuilder text, NineCarts x) {
        add(text, x.back());
        mix(text, x, 0);
        mix(text, x, 1);
    }

    private static void law(StringBuilder text, NineCarts x) {
        for (int v = 0; v < 3; v++) add(text, x.won(v, 0), x.won(v, 12), x.won(v, 32), x.won(v, 55), x.won(v, 90));
    }

    private static void tape(StringBuilder text, NineCarts x) {
        add(text, x.count(1), x.law());
        law(text, x);
    }

    private static void values(StringBuilder text, NineCarts x) {
        add(text, x.of(0, 0), x.of(1, 0));
        for (int v = 0; v < 3; v++) add(text, x.of(v, 10), x.of(v, 11));
    }

    private static void undone(StringBuilder text, NineCarts x) {
        add(text, x.count(2));
        for (int left = x.undo(); left != STATE; left = x.undo()) add(text, left);
        values(text, x);
    }

    private static void again(StringBuilder text, NineCarts x) {
        for (int left = x.redo(); left != STATE; left = x.redo()) {
            add(text, left);
            values(text, x);
        }
    }

    private static void bodies(StringBuilder text, NineCarts x) {
        add(text, x.count(3));
        for (int body = 0; body < 5; body++) {
            for (int act = 0; act < 4; act++) add(text, x.act(body, act, 5));
        }
    }

    private static void trace(StringBuilder text, NineCarts x) {
        add(text, x.count(4));
        for (int i = 0; i < 12; i++) add(text, x.trace(i));
    }

    /** What it holds, all that a ROW may hold, and of which sort it is. */
    private static void shelf(StringBuilder text, NineCarts x, int shelf) {
        for (int kind = 0; kind < 8; kind++) add(text, x.taken(shelf, kind));
        for (int i = 0; i < 60; i++) add(text, x.element(shelf, i));
        add(text, x.put(shelf, 0, 1L << 40 | 0x1234567890L), x.element(shelf, 0));
    }

    private static String told(Part part, NineCarts x) {
        StringBuilder text = new StringBuilder(part.name());
        part.teller().tell(text, x);
        return text.toString();
    }

    private static void hold(Asked asked, int at) {
        Set<String> changed = Set.of(asked.changed());
        for (Part part : PARTS) {
            String before = told(part, all());
            NineCarts x = all();
            asked.on().on(x);
            String behind = told(part, x);
            String what = asked.call() + " [" + at + "], " + part.name();
            if (changed.contains(part.name())) DUE.is(what + " is another", behind.equals(before) ? 0 : 1, 1);
            else DUE.same(what + " stays", behind, before);
        }
    }

    private static List<Asked> everyCall() {
        List<Asked> every = new ArrayList<>(List.of(CHANGING));
        every.addAll(List.of(ASKING));
        return every;
    }

    /** All calls there are stand above, and none of those that ask is refused. */
    private static void named() {
        Set<String> names = new TreeSet<>();
        for (Asked asked : everyCall()) names.add(asked.call());
        DUE.is("every call", Pair.faceIs(names) ? 1 : 0, 1);
        for (Asked asked : ASKING) {
            boolean refused = List.of(-1L, -5L, -2000000000L, Long.MIN_VALUE).contains(asked.on().on(all()));
            DUE.is(asked.call() + " is answered", refused ? 0 : 1, 1);
        }
    }

    /** Whatever is asked in between, it answers the same again. */
    private static void askedAgain() {
        NineCarts x = all();
        long[] first = new long[ASKING.length];
        for (int i = 0; i < ASKING.length; i++) first[i] = ASKING[i].on().on(x);
        for (int step = 1; step < ASKING.length; step++) {
            if (step % 7 == 0) x = all();
            for (int i = 0; i < ASKING.length; i++) {
                int at = (i * step + step) % ASKING.length;
                DUE.is(ASKING[at].call() + " again", ASKING[at].on().on(x), first[at]);
            }
        }
    }

    /** An object stands as it is, whatever is done with others by turns with it. */
    private static void others() {
        for (Part part : PARTS) {
            String alone = told(part, all());
            NineCarts x = all();
            NineCarts full = Look.full();
            for (Asked asked : everyCall()) {
                asked.on().on(full);
                asked.on().on(new NineCarts());
            }
            DUE.same("beside others, " + part.name(), told(part, x), alone);
        }
        NineCarts one = new NineCarts();
        NineCarts other = new NineCarts();
        DUE.all("by turns", 0, one.village(1, 0), other.village(2, 1), one.body(3), other.body(4));
        DUE.all("by turns", 1, one.keep(5, 0), other.row(5, 2, 1), one.feed('a'), other.feed('b'), one.law(), other.law());
        DUE.is("by turns", one.mend(0, 0, 1), 6);
        DUE.is("by turns", other.mend(0, 0, 2), 6);
        DUE.all("by turns", 1, one.of(0, 10), one.won(0, 10), other.won(0, 1), one.mix(0, 1, 9), other.mix(1, 6, 8));
        DUE.all("by turns", 0, one.won(0, 1), other.won(0, 10), one.undo(), one.of(1, 2), other.of(0, 2));
        DUE.is("by turns", one.taken(5, 0), 3);
        DUE.is("by turns", other.taken(5, 0), -12);
        DUE.is("by turns", other.of(0, 0), 2);
        scoresByTurns();
    }

    /** Who has what in one is nothing to the other, however often both were asked. */
    private static void scoresByTurns() {
        NineCarts one = new NineCarts();
        NineCarts other = new NineCarts();
        one.village(3, 0);
        other.village(5, 1);
        one.village(4, 2);
        for (int turn = 0; turn < 4; turn++) {
            if (turn == 2) other.village(7, 1);
            DUE.is("by turns: 3 and 4", one.score(11, 10), 7);
            DUE.is("by turns: 5, or 5 and 7", other.score(0, 0), turn < 2 ? -5 : -12);
            DUE.is("by turns: all of both", one.line(0, 9, 0), 7);
            DUE.is("by turns: all of one", other.line(0, 1, 0), turn < 2 ? 5 : 2);
            DUE.is("by turns: the first surely", one.sure(0), 0);
            DUE.is("by turns: against nothing", one.best(0), 1);
            DUE.is("by turns: against nothing", other.best(0), turn < 2 ? 1 : 11);
        }
    }

    /** One BODY may stand on more SHELVES than one; what comes to one of them leaves the others. */
    private static void sameBody() {
        NineCarts x = new NineCarts();
        x.body(5);
        for (int shelf = 0; shelf < 6; shelf++) DUE.is("32 on " + shelf, x.keep(shelf, 0), 1);
        for (int shelf = 0; shelf < 6; shelf++) {
            DUE.is("37 on " + shelf, x.taken(shelf, 5), 5);
            if (shelf % 2 == 0) x.keep(shelf, -1);
            else x.row(shelf, 1, 3);
            DUE.is("37 no more on " + shelf, x.taken(shelf, 5), shelf % 2 == 0 ? -11 : -12);
            for (int other = shelf + 1; other < 6; other++) DUE.is("37 still on " + other, x.taken(other, 5), 5);
        }
        DUE.is("30 and acts", x.act(0, 0, 1), 4);
    }

    public static void main(String[] args) {
        for (int i = 0; i < CHANGING.length; i++) hold(CHANGING[i], i);
        for (int i = 0; i < ASKING.length; i++) hold(ASKING[i], i);
        named();
        askedAgain();
        others();
        sameBody();
        DUE.end("StaysTest");
    }
}
