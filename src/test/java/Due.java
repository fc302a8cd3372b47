/** Counts the answers that are not as due. */
final class Due {
    static final long MIN = Long.MIN_VALUE;
    private int wrong = 0;
    private int asked = 0;

    void is(String what, long got, long due) {
        asked++;
        if (got == due) return;
        wrong++;
        System.out.println(what + ": answered " + got + ", due is " + due);
    }

    void all(String what, long due, long... got) {
        for (int i = 0; i < got.length; i++) is(what + " [" + i + "]", got[i], due);
    }

    void same(String what, String got, String due) {
        asked++;
        if (got.equals(due)) return;
        wrong++;
        System.out.println(what + ": saw\n  " + got + "\ndue is\n  " + due);
    }

    void end(String name) {
        System.out.println(name + ": " + asked + " answers, " + wrong + " wrong");
        if (wrong != 0 || asked == 0) System.exit(1);
    }

    /** Tells a TEXT to THE TAPE. */
    static int tell(NineCarts x, String text) {
        for (int i = 0; i < text.length(); i++) x.feed(text.charAt(i));
        return x.law();
    }
}
