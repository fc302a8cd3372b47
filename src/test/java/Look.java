/** Objects in three states, all that can be seen of one, and that a refused call changes nothing of it. */
final class Look {
    private static final int STATE = -5;

    private Look() { }

    interface Maker {
        NineCarts make();
    }

    interface Call {
        long on(NineCarts x);
    }

    /** Some of everything, and room for more; SHELF 5 holds nothing. */
    static NineCarts busy() {
        NineCarts x = new NineCarts();
        x.village(3, 12);
        x.village(5, 0);
        x.village(2, 21);
        x.mend(1, 0, 5);
        x.mix(0, 222, 2);
        x.mix(1, 311, 3);
        x.image();
        x.mix(0, 411, 1);
        x.mix(1, 32, 4);
        x.mend(0, 1, 7);
        x.mend(2, 2, 4);
        x.undo();
        feed(x, "b-a");
        x.body(5);
        x.body(0);
        x.body(3);
        x.act(0, 3, 5);
        x.keep(0, 0);
        x.row(1, 2, 6);
        int[] ints = {222, 3, 123, 1, 7, 2};
        for (int i = 0; i < ints.length; i++) x.put(1, i, ints[i]);
        x.row(2, 4, 3);
        x.put(2, 1, 1);
        x.row(3, 3, 2);
        x.put(3, 0, -13);
        x.row(4, 0, 1);
        x.put(4, 0, 7);
        return x;
    }

    /** As many VILLAGES, PARTINGS, BODIES and elements as there may be. */
    static NineCarts full() {
        NineCarts x = new NineCarts();
        for (int v = 0; v < 5; v++) x.village(v + 1, 10 * (v / 3) + v % 3);
        for (int i = 0; i < 8; i++) {
            x.mix(0, i * 10 / 3 % 7, 1 + i);
            x.mix(1, 10000 + 11 * (i % 3), 9 - i);
        }
        x.image();
        x.mix(1, 0, 0);
        for (int i = 0; i < 8; i++) x.mix(1, 300 + i % 4, 9);
        x.mend(4, 1, 9);
        for (int i = 0; i < 50; i++) x.body(i * 3 % 8);
        x.act(5, 3, 1);
        for (int shelf = 0; shelf < 6; shelf++) {
            x.row(shelf, shelf % 5, 60);
            x.put(shelf, 59, 1);
            x.put(shelf, 0, 1);
        }
        feed(x, "w-3");
        return x;
    }

    static NineCarts fullTape() {
        NineCarts x = new NineCarts();
        x.village(1, 0);
        feed(x, "a+b*".repeat(29) + "-t-2");
        return x;
    }

    static void feed(NineCarts x, String text) {
        for (int i = 0; i < text.length(); i++) x.feed(text.charAt(i));
    }

    /** All that can be seen of an object, by some 250 calls; it is used up by that. */
    static String told(NineCarts x) {
        StringBuilder text = new StringBuilder();
        for (int what = 0; what < 5; what++) add(text, x.count(what));
        places(text, x);
        for (int i = 0; i < 12; i++) add(text, x.trace(i));
        text.append("; shelves");
        for (int shelf = 0; shelf < 6; shelf++) {
            add(text, x.taken(shelf, 0));
            for (int i = 0; i < 6; i++) add(text, x.element(shelf, i));
            add(text, x.element(shelf, 59));
        }
        days(text, x);
        trade(text, x);
        text.append("; law");
        add(text, x.law());
        days(text, x);
        text.append("; image");
        add(text, x.back());
        trade(text, x);
        turns(text, x);
        return text.toString();
    }

    private static void add(StringBuilder text, long answer) {
        text.append(' ').append(answer);
    }

    private static void places(StringBuilder text, NineCarts x) {
        text.append("; of");
        for (int what = 0; what < 4; what++) {
            add(text, x.of(0, what));
            add(text, x.of(1, what));
        }
        for (int v = 0; v < 5; v++) {
            for (int what = 10; what < 13; what++) add(text, x.of(v, what));
        }
    }

    private static void days(StringBuilder text, NineCarts x) {
        text.append("; won");
        for (int v = 0; v < 5; v++) {
            add(text, x.won(v, 0));
            add(text, x.won(v, 33));
            add(text, x.won(v, 21));
            add(text, x.won(v, 49));
        }
    }

    private static void trade(StringBuilder text, NineCarts x) {
        text.append("; mixes");
        for (int part = 0; part < 2; part++) {
            add(text, x.mean(part));
            add(text, x.broke(5, part));
            add(text, x.line(0, -1, part));
            add(text, x.line(1, 9, part));
            add(text, x.of(0, 1 + part));
            add(text, x.of(1, 1 + part));
            add(text, x.best(part));
            add(text, x.year(part, 0));
            add(text, x.year(part, 2));
        }
    }

    /** All that may be UNDONE, and then all that may be DONE AGAIN. */
    private static void turns(StringBuilder text, NineCarts x) {
        text.append("; redo");
        int back = 0;
        for (int left = x.redo(); left != STATE && back < 41; left = x.redo()) {
            add(text, left);
            back++;
        }
        places(text, x);
        text.append("; undo");
        back = 0;
        for (int left = x.undo(); left != STATE && back < 41; left = x.undo()) {
            add(text, left);
            back++;
        }
        places(text, x);
    }

    /** Each call on an object of its own is answered so, and nothing of the object is changed by it. */
    static void refused(Due due, String what, long answer, Maker maker, Call... calls) {
        String before = told(maker.make());
        for (int i = 0; i < calls.length; i++) {
            NineCarts x = maker.make();
            due.is(what + " [" + i + "]", calls[i].on(x), answer);
            due.same(what + " [" + i + "] changes nothing", told(x), before);
        }
    }

    /** Refused whatever stands: with nothing told, with some of everything, with all full. */
    static void everywhere(Due due, String what, long answer, Call... calls) {
        refused(due, what + ", nothing told", answer, NineCarts::new, calls);
        refused(due, what + ", some told", answer, Look::busy, calls);
        refused(due, what + ", full", answer, Look::full, calls);
    }
}
