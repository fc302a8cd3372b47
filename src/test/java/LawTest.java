import java.util.Random;

/** THE TAPE and THE LAW: promises 7, 8, and what a law does to 9 and all that asks who has what. */
public final class LawTest {
    private static final Due DUE = new Due();

    private static void tape() {
        NineCarts x = new NineCarts();
        DUE.all("7 bad", -1, x.feed(-1), x.feed(256), x.feed(Integer.MIN_VALUE), x.feed(Integer.MAX_VALUE));
        DUE.is("7 bad does not come", x.count(1), 0);
        DUE.is("7 lowest", x.feed(0), 1);
        DUE.is("7 highest", x.feed(255), 2);
        for (int i = 3; i <= 120; i++) DUE.is("7", x.feed('1'), i);
        DUE.is("7 full", x.feed('1'), -3);
        DUE.is("7 bad ahead of full", x.feed(256), -1);
        DUE.is("38 bytes", x.count(1), 120);
        DUE.is("8 fault at once", x.law(), -100);
        DUE.is("8 empty then", x.count(1), 0);
        DUE.is("7 from the start", x.feed('1'), 1);
        DUE.is("8", x.law(), 1);
        DUE.is("8 empty then", x.count(1), 0);
        DUE.is("8 of nothing", x.law(), -100);
    }

    /** Texts with where their FAULT is; -1: none. */
    private static void faults() {
        Object[][] due = {
            {"", 0}, {"a", -1}, {"b", -1}, {"w", -1}, {"t", -1}, {"v", -1}, {"c", 0}, {"A", 0}, {" a", 0}, {"a ", 1},
            {"0", -1}, {"1234", -1}, {"12345", 4}, {"0000", -1}, {"1a", 1}, {"a1", 1}, {"ab", 1}, {"a\n", 1},
            {"a;b", -1}, {"a;", 2}, {";a", 0}, {"a;;b", 2}, {"a?b", -1}, {"a?", 2}, {"?b", 0}, {"a?b?w", 3},
            {"a?b;w?t;v", -1}, {"a?b;w?t;", 8}, {"a;b;w;t", -1}, {"(a?b)", 2}, {"(a;b)", 2},
            {"a|b|w", -1}, {"a|", 2}, {"a||b", 2}, {"|a", 0}, {"a&b&w", -1}, {"a&&b", 2}, {"a|b&w|t", -1},
            {"a<b", -1}, {"a=b", -1}, {"a>b", -1}, {"a<b<w", 3}, {"a=b=w", 3}, {"a<b>w", 3}, {"a<=b", 2}, {"a==b", 2},
            {"(a<b)<w", -1}, {"a<(b<w)", -1}, {"a<b&w<t", -1}, {"a<b|w<t", -1}, {"a<b+w", -1}, {"a<", 2},
            {"a+b-w+t", -1}, {"a+", 2}, {"+a", 0}, {"a++b", 2}, {"a--b", -1}, {"a-", 2}, {"-a", -1}, {"a-!b", -1},
            {"a*b/w%t", -1}, {"a*", 2}, {"a**b", 2}, {"a*-b", -1}, {"a/!b", -1}, {"a!b", 1}, {"a!", 1}, {"!", 1},
            {"-", 1}, {"!!a", -1}, {"--a", -1}, {"!-(a)", -1}, {"()", 1}, {"(a", 2}, {"(a))", 3}, {"a)", 1}, {"(", 1},
            {"((a)", 4}, {"(a)(b)", 3}, {"(a)b", 3}, {"(a)1", 3}, {"a(b)", 1}, {")", 0}, {"(12345)", 5}, {"(a+)", 3},
            {"((((((a))))))", -1}, {"(((((((a)))))))", 6}, {"!!!!!!a", -1}, {"!!!!!!!a", 6}, {"------a", -1},
            {"-------a", 6}, {"!-(!-(a))", -1}, {"!-(!-(!a))", 6}, {"!-(!-(-a))", 6}, {"!-(!-((a)))", 6},
            {"!!!!!!a+!!!!!!b", -1}, {"((((((a))))))*((((((b))))))", -1}, {"((((((a)+!b)))))", -1}, {"((((((a+!b))))))", 8}, {"((((((a)+!!b)))))", 10}, {"(((((!a)+!b))))", -1},
            {"((((((a-b))))))", -1}, {"((((((a--b))))))", 8}, {"(!!!!!a-!!!!!b)", -1}, {"(!!!!!a-!!!!!!b)", 13},
            {"a?((((((b))))))", -1}, {"a?(((((((b)))))))", 8}, {"a;((((((b))))))?!!!!!!a", -1}, {"((((((", 6}, {"(((((((", 6}, {"a+b*(w-t", 8}, {"a\u00e9", 1}, {"\u00ff", 0}, {"a,b", 1}, {"a~b", 1},
        };
        for (Object[] one : due) {
            NineCarts x = new NineCarts();
            int fault = (Integer) one[1];
            DUE.is("8 " + one[0], Due.tell(x, (String) one[0]), fault < 0 ? 1 : -100 - fault);
            DUE.is("8 empty then", x.count(1), 0);
        }
        DUE.is("8 of 120", Due.tell(new NineCarts(), "a+b*".repeat(29) + "w-!t"), 1);
        DUE.is("8 of 120, too early", Due.tell(new NineCarts(), "a+b*".repeat(30)), -220);
        DUE.is("8 of 120, unclosed", Due.tell(new NineCarts(), "(" + "a+b*".repeat(29) + "w+t"), -220);
        DUE.is("8 of 60 lines", Due.tell(new NineCarts(), "a;".repeat(59) + "a"), 1);
        DUE.is("8 of 40 lines", Due.tell(new NineCarts(), "0?1;".repeat(29) + "0?12"), 1);
    }

    /** The first byte behind which nothing makes a TEXT of it, by trying: no grammar stands here. */
    private static void viable() {
        Random chance = new Random(3);
        String signs = "abwtv0129!-+*/%()()()|&<=>?;;q ";
        NineCarts x = new NineCarts();
        for (int i = 0; i < 4000; i++) {
            StringBuilder text = new StringBuilder();
            int length = chance.nextInt(14);
            while (text.length() < length) {
                text.append(signs.charAt(chance.nextInt(signs.length())));
                if (chance.nextInt(4) != 0 && !goesOn(text.toString())) text.setLength(text.length() - 1);
            }
            int fault = 0;
            while (fault < length && goesOn(text.substring(0, fault + 1))) fault++;
            boolean whole = fault == length && read(text.toString());
            x = new NineCarts();
            DUE.is("8 " + text, Due.tell(x, text.toString()), whole ? 1 : -100 - fault);
        }
    }

    /** Any beginning of a TEXT wants at most one O and 6 brackets more. */
    private static boolean goesOn(String beginning) {
        for (String operand : new String[] {"", "a"}) {
            for (int brackets = 0; brackets <= 6; brackets++) {
                if (read(beginning + operand + ")".repeat(brackets))) return true;
            }
        }
        return false;
    }

    private static boolean read(String text) {
        return Due.tell(new NineCarts(), text) == 1;
    }

    /** What an E gives, told by three laws: E, -(E) and E = number. */
    private static void gives(String text, int due) {
        NineCarts x = world();
        Due.tell(x, text);
        DUE.is("9 " + text, x.won(1, 52), due > 0 ? 1 : due < 0 ? 2 : 0);
        boolean plain = text.length() < 100 && due >= 0 && due <= 9999 && text.indexOf('?') < 0 && text.indexOf(';') < 0;
        if (!plain) return;
        DUE.is("8 whole " + text, Due.tell(x, "(" + text + ")=" + due), 1);
        DUE.is("9 whole " + text, x.won(1, 52), 1);
    }

    /** VILLAGE 1 has WORTH 7 and WANT 3; asked with a 5, b 2. */
    private static NineCarts world() {
        NineCarts x = new NineCarts();
        x.village(1, 0);
        x.village(7, 30);
        return x;
    }

    private static void values() {
        gives("a", 5);
        gives("b", 2);
        gives("w", 7);
        gives("t", 3);
        gives("v", 1);
        gives("0", 0);
        gives("0012", 12);
        gives("-a", -5);
        gives("--a", 5);
        gives("!a", 0);
        gives("!!a", 1);
        gives("!0", 1);
        gives("-!0", -1);
        gives("!-a+a", 5);
        gives("a-b-t", 0);
        gives("a-(b-t)", 6);
        gives("a-b*t", -1);
        gives("a+b*t", 11);
        gives("(a+b)*t", 21);
        gives("a*b/t", 3);
        gives("a/b*t", 6);
        gives("a%t", 2);
        gives("100/w%5", 4);
        gives("-a/b", -2);
        gives("-a/b+2", 0);
        gives("-a%b+1", 0);
        gives("a/0", 0);
        gives("a%0", 0);
        gives("a/(b-2)+1", 1);
        gives("a<b", 0);
        gives("b<a", 1);
        gives("a<a", 0);
        gives("a>b", 1);
        gives("b>a", 0);
        gives("a>a", 0);
        gives("a=b", 0);
        gives("a=b+t", 1);
        gives("a&b", 1);
        gives("a&0", 0);
        gives("0&a", 0);
        gives("-1&-1", 1);
        gives("a|0", 1);
        gives("0|b", 1);
        gives("0|0", 0);
        gives("0|a&0", 0);
        gives("a|0&0", 1);
        gives("1=(a>b)", 1);
        gives("a>b&b>a|w>t", 1);
        gives("a+b>t&w", 1);
        gives("2*(a>b)", 2);
        wraps();
        lines();
    }

    private static void wraps() {
        gives("9999*9999*9999", (int) (9999L * 9999 * 9999));
        gives("9999*9999*22", (int) (9999L * 9999 * 22));
        gives("32*1024*256*256", Integer.MIN_VALUE);
        gives("-(32*1024*256*256)", Integer.MIN_VALUE);
        gives("32*1024*256*256-1", Integer.MAX_VALUE);
        gives("32*1024*256*256/-1", Integer.MIN_VALUE);
        gives("32*1024*256*256%-1", 0);
        gives("64*1024*256*256", 0);
    }

    private static void lines() {
        gives("a>b?-1;1", -1);
        gives("a<b?-1;1", 1);
        gives("a<b?-1;a=b?1", 0);
        gives("0?1;0?1;-1", -1);
        gives("0;1", 0);
        gives("-1;1", -1);
        gives("-1?a;b", 5);
        gives("0?a;t?0;1", 0);
        gives("0", 0);
        gives("0?1", 0);
        gives("-a" + "+a".repeat(59), 1);
        gives("0?-1;a-a+1" + ";-1".repeat(36), 1);
        gives("w=7&t=3?-1", -1);
    }

    private static void inForce() {
        NineCarts x = world();
        DUE.is("9 no law yet", x.won(1, 52), 1);
        DUE.is("8", Due.tell(x, "b-a"), 1);
        DUE.is("9 less takes it", x.won(1, 52), 2);
        DUE.is("9 less takes it", x.won(1, 25), 1);
        DUE.is("10 by the law", x.score(60, 33), 6);
        DUE.is("8 a fault", Due.tell(x, "a-"), -102);
        DUE.is("9 the law stands", x.won(1, 52), 2);
        DUE.is("10 the law stands", x.score(60, 33), 6);
        DUE.all("8 faults at once", -100, Due.tell(x, ""), Due.tell(x, "q"));
        DUE.is("9 the law stands", x.won(1, 52), 2);
        DUE.is("10 the law stands", x.score(60, 33), 6);
        DUE.is("8 another", Due.tell(x, "w-t-4"), 1);
        DUE.is("9 worth and want", x.won(1, 0), 0);
        DUE.is("10 worth and want", x.score(0, 0), -1);
        x.mend(1, 2, 2);
        DUE.is("10 less want", x.score(0, 0), 6);
        x.mend(1, 1, 5);
        DUE.is("10 less worth", x.score(0, 0), -6);
        x.undo();
        DUE.is("10 worth undone", x.score(0, 0), 6);
        Due.tell(x, "v");
        x.village(9, 92);
        DUE.is("10 village 2, too", x.score(0, 0), 16);
        DUE.is("22 all but village 0", x.fewest(2), 0);
        DUE.is("22 all but village 0", x.fewest(3), -2);
        DUE.is("20 all but village 0", x.sure(0), 2);
    }

    public static void main(String[] args) {
        tape();
        faults();
        viable();
        values();
        inForce();
        DUE.end("LawTest");
    }
}
