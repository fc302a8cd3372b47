import java.util.ArrayDeque;
import java.util.Deque;
import java.util.Random;

/** Calls by chance (always the same ones for a seed), most of them as they may be, some at or beyond an edge. */
final class RandomCalls {
    /** A call of the public face; args are as its parameters want them. */
    record Call(String name, Object... args) {
        String text() {
            StringBuilder text = new StringBuilder(name).append('(');
            for (int i = 0; i < args.length; i++) text.append(i == 0 ? "" : ", ").append(args[i]);
            return text.append(')').toString();
        }
    }

    private static final int[] WILD = {
        Integer.MIN_VALUE, Integer.MIN_VALUE + 1, -1000000, -100, -12, -2, -1, 8, 10, 11, 61, 99, 100, 120, 255, 256,
        99999, 100000, 1 << 30, Integer.MAX_VALUE - 1, Integer.MAX_VALUE};

    private final Random chance;
    private final NineCarts about;
    private final int wildness;
    private final boolean dear;
    private final Deque<Call> pending = new ArrayDeque<>();
    // What a run is mostly about: 0 no law, 1 laws, 2 acts and shelves, 3 all.
    private final int theme;

    /** wildness: one argument of so many is wild; dear: calls that take the model long may come, too. */
    RandomCalls(long seed, NineCarts about, int wildness, boolean dear) {
        chance = new Random(seed);
        this.about = about;
        this.wildness = wildness;
        this.dear = dear;
        theme = (int) Math.floorMod(seed, 4L);
    }

    private int below(int n) {
        return chance.nextInt(n);
    }

    /** One of low to high, or something wild. */
    private int some(int low, int high) {
        int which = below(wildness);
        if (which == 0) return WILD[below(WILD.length)];
        if (which == 1) return low - 1 + below(high - low + 3);
        return low + below(high - low + 1);
    }

    private int parting(int baker) {
        int which = below(wildness);
        if (which == 0) return WILD[below(WILD.length)];
        int villages = about.count(0);
        int left = Math.max(0, about.of(baker == 1 ? 1 : 0, 0));
        if (which == 1) left++;
        int[] digits = new int[5];
        boolean all = below(3) != 0;
        for (int i = 0; i < left && villages > 0; i++) {
            if (all || below(3) != 0) digits[below(villages)]++;
        }
        int number = 0;
        for (int v = 0; v < villages; v++) number = number * 10 + Math.min(9, digits[v]);
        return number;
    }

    /** A TEXT or nearly one, of which each byte comes in a call of its own. */
    String lawText() {
        StringBuilder text = new StringBuilder();
        int lines = 1 + below(3);
        for (int i = 0; i < lines; i++) {
            if (i > 0) text.append(';');
            if (below(2) == 0) text.append(either(0, 3)).append('?');
            text.append(either(0, 4));
        }
        int spoils = below(4);
        if (spoils == 0 && text.length() > 0) text.setCharAt(below(text.length()), "ab()!-+*/%|&<=>?;0123456789wtvq "
            .charAt(below(32)));
        if (spoils == 1 && text.length() > 0 && below(2) == 0) text.setLength(below(text.length()));
        if (text.length() > 124) text.setLength(124);
        return text.toString();
    }

    private String either(int open, int size) {
        StringBuilder text = new StringBuilder();
        int operands = 1 + below(size);
        boolean compared = false;
        for (int i = 0; i < operands; i++) {
            if (i > 0) {
                String signs = compared ? "|&+-*/%" : "|&+-*/%<=>";
                char sign = signs.charAt(below(signs.length()));
                if ("<=>".indexOf(sign) >= 0) compared = true;
                if ("|&".indexOf(sign) >= 0) compared = false;
                text.append(sign);
            }
            text.append(operand(open, size));
        }
        return text.toString();
    }

    private String operand(int open, int size) {
        int which = below(14);
        int most = below(20) == 0 ? 7 : 6;
        if (which == 0 && open < most) return "!" + operand(open + 1, size);
        if (which == 1 && open < most) return "-" + operand(open + 1, size);
        if (which <= 3 && open < most) return "(" + either(open + 1, Math.max(1, size - 1)) + ")";
        if (which <= 5) return String.valueOf(below(below(2) == 0 ? 10 : 9999));
        if (which <= 6) return below(2) == 0 ? "9999*9999*9999" : "0" + below(100);
        return String.valueOf("aabbwtv".charAt(below(7)));
    }

    Call next(int at) {
        if (pending.isEmpty() && theme != 0 && theme != 2 && below(120) == 0) tellLaw();
        if (pending.isEmpty() && theme != 0 && theme != 1 && below(40) == 0) tellRow();
        if (!pending.isEmpty() && below(20) != 0) return pending.poll();
        if (at < 12 && below(3) == 0) return village();
        int group = below(theme == 2 ? 24 : 11);
        if (group < 3) return setting();
        if (group < 6) return asking();
        if (group < 8) return dear ? dearAsking() : asking();
        if (group < 9) return changing();
        return below(2) == 0 ? acting() : shelving();
    }

    private void tellLaw() {
        for (char letter : lawText().toCharArray()) pending.add(new Call("feed", (int) letter));
        pending.add(new Call("law"));
    }

    /** A ROW of ints is filled with PARTINGS and WEIGHTS, which come to a MIX. */
    private void tellRow() {
        int shelf = below(6);
        int baker = below(2);
        int twos = 1 + below(8);
        int from = below(3);
        int length = from + 2 * twos - (below(4) == 0 ? 1 : 0);
        if (below(2) == 0) pending.add(new Call("mix", baker, 0, 0));
        pending.add(new Call("row", shelf, below(12) == 0 ? 3 : 2, length));
        for (int i = 0; i < twos; i++) {
            pending.add(new Call("put", shelf, from + 2 * i, (long) parting(baker)));
            pending.add(new Call("put", shelf, from + 2 * i + 1, (long) (below(12) == 0 ? some(0, 9) : 1 + below(9))));
        }
        pending.add(new Call("mixes", shelf, from, 10 * baker + 1 + below(8)));
        pending.add(new Call("mixes", shelf, some(0, 6), 10 * baker + 1 + below(8)));
    }

    private Call village() {
        return new Call("village", some(1, 9), below(3) == 0 ? some(0, 92) : below(3) + 10 * below(4));
    }

    private Call mendToTheSame() {
        int what = below(3);
        int number = below(what == 0 ? 2 : Math.max(1, about.count(0)));
        return new Call("mend", number, what, about.of(number, what == 0 ? 0 : 9 + what));
    }

    private Call setting() {
        int baker = some(0, 1);
        switch (below(9)) {
            case 0: return below(4) == 0 ? village() : new Call("of", some(0, 4), some(0, 3));
            case 1: case 2: return new Call("mend", some(0, 1), 0, some(dear ? 0 : 3, dear ? 9 : 8));
            case 3: return below(3) == 0 ? mendToTheSame() : new Call("mend", some(0, 4), some(0, 2), some(1, 9));
            case 4: case 5: case 6:
                return new Call("mix", baker, parting(baker), below(10) == 0 ? 0 : some(1, 9));
            case 7: return below(2) == 0 ? new Call("of", some(0, 1), some(0, 3)) : new Call("of", some(0, 4), some(10, 12));
            default: return below(4) == 0 ? new Call("feed", some(0, 255)) : new Call("count", some(0, 4));
        }
    }

    private Call asking() {
        int baker = some(0, 1);
        switch (below(11)) {
            case 0: return new Call("won", some(0, 4), some(0, 99));
            case 1: return new Call("score", parting(0), parting(1));
            case 2: return new Call("mean", some(0, 1));
            case 3: return new Call("best", baker);
            case 4: return new Call("line", baker, some(-1, 9), some(0, 1));
            case 5: return new Call("spy", some(0, 4), some(0, 1));
            case 6: return new Call("broke", some(0, 12), some(0, 1));
            case 7: return new Call("beaten", baker, parting(baker));
            case 8: return new Call("sure", parting(0));
            case 9: return new Call("year", baker, some(0, 30));
            default: return new Call("years", some(0, 30));
        }
    }

    private Call dearAsking() {
        switch (below(5)) {
            case 0: return new Call("safest", some(0, 1), some(0, 1));
            case 1: return new Call("ring", some(0, 2));
            case 2: return new Call("rest", some(0, 2));
            case 3: return new Call("most", some(0, 1));
            default: return new Call("fewest", some(0, 5));
        }
    }

    private Call changing() {
        switch (below(7)) {
            case 0: return new Call("image");
            case 1: return new Call("back");
            case 2: case 3: return new Call("undo");
            case 4: return new Call("redo");
            case 5: return new Call("law");
            default: return new Call("count", some(0, 4));
        }
    }

    private Call acting() {
        switch (below(5)) {
            case 0: return new Call("body", some(0, 7));
            case 1: case 2: return new Call("act", some(0, Math.max(1, about.count(3)) - 1), some(0, 3), below(2) == 0 ? chance.nextInt() : some(-9, 9));
            case 3: return new Call("trace", some(0, 10));
            default: return new Call("count", some(3, 4));
        }
    }

    private Call shelving() {
        int shelf = some(0, 5);
        switch (below(10)) {
            case 0: return new Call("keep", shelf, below(6) == 0 ? -1 : some(0, Math.max(1, about.count(3)) - 1));
            case 1: return new Call("row", shelf, below(2) == 0 ? 2 : some(0, 4), below(4) == 0 ? some(0, 60) : 8 + below(12));
            case 2: case 3: return new Call("put", shelf, some(0, 12), value());
            case 4: return new Call("element", shelf, some(0, 12));
            case 5: case 6: return new Call("shift", shelf, some(0, 6), some(0, 5), some(0, 6), some(0, 8));
            case 7: return new Call("taken", shelf, some(0, 7));
            default: return new Call("mixes", shelf, some(0, 6), below(4) == 0 ? some(1, 18) : some(0, 1) * 10 + some(1, 8));
        }
    }

    private long value() {
        int which = below(4);
        if (which == 0) return chance.nextLong();
        if (which == 1) return parting(below(2));
        return some(0, 9);
    }
}
