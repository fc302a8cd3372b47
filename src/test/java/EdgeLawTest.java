/** Boundaries of THE TAPE and THE LAW: promises 7, 8, 9 and the Terms of a TEXT. */
public final class EdgeLawTest {
    private static final int BAD = -1, FULL = -3;
    private static final int LOW = Integer.MIN_VALUE, HIGH = Integer.MAX_VALUE;
    private static final String LOWEST = "32*1024*256*256";
    private static final Due DUE = new Due();

    private static void tape() {
        NineCarts x = new NineCarts();
        for (int letter = 0; letter < 120; letter++) DUE.is("7 how many", x.feed(letter * 15 % 256), letter + 1);
        DUE.all("7 FULL", FULL, x.feed(0), x.feed(255), x.feed('a'));
        DUE.all("7 BAD ahead of FULL", BAD, x.feed(-1), x.feed(256));
        DUE.is("38 120", x.count(1), 120);
        for (int letter = 0; letter <= 255; letter++) DUE.is("7 a byte", new NineCarts().feed(letter), 1);
        Look.everywhere(DUE, "7 no byte", BAD, y -> y.feed(-1), y -> y.feed(256), y -> y.feed(-256), y -> y.feed('a' + 256),
            y -> y.feed('a' - 256), y -> y.feed(LOW), y -> y.feed(HIGH));
        Look.refused(DUE, "7 FULL", FULL, Look::fullTape, y -> y.feed('a'), y -> y.feed(0), y -> y.feed(255));
        Look.refused(DUE, "7 BAD ahead of FULL", BAD, Look::fullTape, y -> y.feed(-1), y -> y.feed(256), y -> y.feed(HIGH));
    }

    /** THE TAPE is empty behind law(), FAULT or not, and an empty one ends too early at once. */
    private static void emptied() {
        NineCarts x = new NineCarts();
        x.village(4, 0);
        DUE.all("8 an empty TAPE", -100, x.law(), x.law());
        DUE.is("9 no LAW by that", x.won(0, 12), 2);
        for (String text : new String[] {"b-a", "q", "1-", "b-a", "a-b;", ""}) {
            Look.feed(x, text);
            DUE.is("38 bytes", x.count(1), text.length());
            DUE.is("8 " + text, x.law(), text.equals("b-a") ? 1 : text.equals("q") || text.isEmpty() ? -100 : -100 - text.length());
            DUE.is("8 empty then", x.count(1), 0);
            DUE.is("8 and empty again", x.law(), -100);
            DUE.is("8 THE LAW stands: less takes it", x.won(0, 12), 1);
            DUE.is("8 THE LAW stands: less takes it", x.won(0, 21), 2);
            DUE.is("8 THE LAW stands: less takes it", x.score(2, 1), -4);
        }
        DUE.is("7 from the start", x.feed('0'), 1);
    }

    /** A FAULT lies anywhere from 0 to 120. */
    private static void places() {
        String whole = "a+b*".repeat(29) + "w-!t";
        DUE.is("8 of 120", Due.tell(new NineCarts(), whole), 1);
        for (int at = 0; at < 120; at++) {
            String spoiled = whole.substring(0, at) + "q" + whole.substring(at + 1);
            DUE.is("8 q at " + at, Due.tell(new NineCarts(), spoiled), -100 - at);
            boolean ended = at > 0 && "abwt".indexOf(whole.charAt(at - 1)) >= 0;
            DUE.is("8 of " + at, Due.tell(new NineCarts(), whole.substring(0, at)), ended ? 1 : -100 - at);
        }
        DUE.is("8 120 too early", Due.tell(new NineCarts(), whole.substring(0, 119) + "-"), -220);
        DUE.is("8 of 120 and more: what did not come does not count", Due.tell(new NineCarts(), whole + "qqqq"), 1);
    }

    private static String sign(int letter) {
        return String.valueOf((char) letter);
    }

    /** Each byte there is, at the start, behind an O, behind a B with < in it, behind ? and its E, in ( ). */
    private static void eachByte() {
        for (int letter = 0; letter <= 255; letter++) {
            char c = (char) letter;
            boolean digit = c >= '0' && c <= '9';
            boolean operand = digit || "abwtv".indexOf(c) >= 0;
            boolean opens = "(!-".indexOf(c) >= 0;
            DUE.is("8 " + letter, Due.tell(new NineCarts(), sign(letter)), operand ? 1 : opens ? -101 : -100);
            for (String head : new String[] {"a+", "a?", "a;", "a<", "a&", "a|", "a*", "(", "!", "-", "1%", "2/", "3-", "w=", "t>"}) {
                boolean open = head.equals("(");
                int at = head.length();
                int due = operand && !open ? 1 : operand || opens ? -101 - at : -100 - at;
                DUE.is("8 " + head + letter, Due.tell(new NineCarts(), head + c), due);
            }
            behind("a", letter, "|&<=>+-*/%?;", false);
            behind("a<b", letter, "|&+-*/%?;", false);
            behind("a=b|a", letter, "|&<=>+-*/%?;", false);
            behind("a>b&a", letter, "|&<=>+-*/%?;", false);
            behind("a?b", letter, "|&<=>+-*/%;", false);
            behind("a?b;a", letter, "|&<=>+-*/%?;", false);
            behind("(a)", letter, "|&<=>+-*/%?;", false);
            behind("(a", letter, "|&<=>+-*/%)", true);
            behind("(a<b", letter, "|&+-*/%)", true);
            behind("a?(b", letter, "|&<=>+-*/%)", true);
            behind("!a", letter, "|&<=>+-*/%?;", false);
            behind("1", letter, "|&<=>+-*/%?;0123456789", false);
            behind("123", letter, "|&<=>+-*/%?;0123456789", false);
            behind("1234", letter, "|&<=>+-*/%?;", false);
            behind("a+0000", letter, "|&<=>+-*/%?;", false);
        }
    }

    /** Behind a head these signs alone go on; a digit that goes on, and a ), end a TEXT. */
    private static void behind(String head, int letter, String goOn, boolean inside) {
        char c = (char) letter;
        int due = goOn.indexOf(c) < 0 ? -100 - head.length() : -101 - head.length();
        if (goOn.indexOf(c) >= 0 && (c >= '0' && c <= '9' || c == ')')) due = 1;
        DUE.is("8 " + head + letter + (inside ? " in ( )" : ""), Due.tell(new NineCarts(), head + c), due);
    }

    /** A number has 1 to 4 digits. */
    private static void digits() {
        String[] numbers = {"0", "9", "00", "99", "000", "999", "0000", "0009", "9999", "0010"};
        for (String number : numbers) {
            DUE.is("8 " + number, Due.tell(new NineCarts(), number), 1);
            gives(number, Integer.parseInt(number));
        }
        for (String number : new String[] {"00000", "12345", "99999", "00001"}) {
            DUE.is("8 five digits", Due.tell(new NineCarts(), number), -104);
            DUE.is("8 five digits", Due.tell(new NineCarts(), "a+(" + number + ")"), -107);
            DUE.is("8 five digits behind four", Due.tell(new NineCarts(), "1234+" + number), -109);
        }
    }

    /** Each number there is counts as itself: by two smaller ones. */
    private static void numbers() {
        NineCarts x = world();
        for (int number = 0; number <= 9999; number++) {
            if (number % 100 == 0) x = world();
            String less = "97*" + number / 97 + "+" + number % 97 + "-" + number;
            Due.tell(x, less);
            DUE.is("9 no less than " + number, x.won(0, 0), 0);
            Due.tell(x, less + "+1");
            DUE.is("9 no more than " + number, x.won(0, 0), 1);
        }
    }

    /** All that may wait at once for what comes behind it: an | & < + * in each of six ( ), and ahead of them. */
    private static void waiting() {
        String text = "0|1&9<t+b*(".repeat(6) + "0|1&9<t+b*a" + "))))))";
        NineCarts x = world();
        // 9 < 3 + 2 * 5 is 1, and 9 < 3 + 2 * 1 is 0, and so is each further one
        DUE.is("8 " + text, Due.tell(x, text), 1);
        DUE.is("9 " + text, x.won(1, 52), 0);
        // 3 < 3 + 2 * 1, too
        Due.tell(x, text.replace('9', '3'));
        DUE.is("9 with 3 for 9", x.won(1, 52), 1);
        Due.tell(x, text.replace("0|", "2|"));
        DUE.is("9 with 2 for 0", x.won(1, 52), 1);
        Due.tell(x, text.replace("1&9<", "0&3<"));
        DUE.is("9 with 0 for 1", x.won(1, 52), 0);
    }

    /** Six of ( ! - ahead of an O may be open at once, of whatever kinds; a seventh is the FAULT. */
    private static void open() {
        for (int kinds = 0; kinds < 2187; kinds++) {
            StringBuilder head = new StringBuilder();
            StringBuilder tail = new StringBuilder();
            int left = kinds;
            for (int i = 0; i < 7; i++) {
                char c = "(!-".charAt(left % 3);
                left /= 3;
                head.append(c);
                if (c == '(') tail.append(')');
                if (i == 5) DUE.is("8 six: " + head, Due.tell(new NineCarts(), head + "a" + tail), 1);
            }
            DUE.is("8 seven: " + head, Due.tell(new NineCarts(), head + "a" + tail), -106);
        }
        String six = "((((((a))))))";
        for (char join : "|&<=>+-*/%?;".toCharArray()) {
            DUE.is("8 closed behind six: " + join, Due.tell(new NineCarts(), six + join + six), 1);
            DUE.is("8 closed behind six: " + join, Due.tell(new NineCarts(), "!!!!!!a" + join + "------b"), 1);
            DUE.is("8 a seventh there: " + join, Due.tell(new NineCarts(), six + join + "(" + six + ")"), -120);
        }
        DUE.is("8 - between is not ahead of an O", Due.tell(new NineCarts(), "((((((a-b-w))))))"), 1);
        DUE.is("8 - between and six - ahead", Due.tell(new NineCarts(), "a-------b"), 1);
        DUE.is("8 - between and seven - ahead", Due.tell(new NineCarts(), "a--------b"), -108);
        DUE.is("8 an O ends what is ahead of it", Due.tell(new NineCarts(), "(((((!a+-b*!w<-t)))))"), 1);
    }

    /** Ints of a TEXT wrap; / and % toward 0; by 0 they give 0; signs give 1, 0. */
    private static void ints() {
        gives(LOWEST, LOW);
        gives(LOWEST + "-1", HIGH);
        gives("-(" + LOWEST + ")", LOW);
        gives("-1-(" + LOWEST + "-1)", LOW);
        gives(LOWEST + "+" + LOWEST, 0);
        gives(LOWEST + "*2", 0);
        gives(LOWEST + "/-1", LOW);
        gives(LOWEST + "%-1", 0);
        gives("9999*9999*9999*9999", (int) (9999L * 9999 * 9999 * 9999));
        gives(LOWEST + "<1", 1);
        gives(LOWEST + "<" + LOWEST + "-1", 1);
        gives("0>" + LOWEST, 1);
        gives("(" + LOWEST + "-1)>-1", 1);
        gives(LOWEST + "=-(" + LOWEST + ")", 1);
        gives("!(" + LOWEST + ")", 0);
        gives("!!(" + LOWEST + ")", 1);
        gives(LOWEST + "&" + LOWEST, 1);
        gives("0|" + LOWEST, 1);
        gives("7/2", 3);
        gives("-7/2", -3);
        gives("7/-2", -3);
        gives("-7/-2", 3);
        gives("7%2", 1);
        gives("-7%2", -1);
        gives("7%-2", 1);
        gives("-7%-2", -1);
        gives("7/8", 0);
        gives("-7/8", 0);
        for (String by0 : new String[] {"7/0", "7%0", "0/0", "0%0", "-7/0", "-7%0", "7/(a-5)", "7%(b-b)", LOWEST + "/0", LOWEST + "%0"}) {
            gives(by0, 0);
            gives(by0 + "+3", 3);
            gives("0&" + by0, 0);
            gives("1|" + by0, 1);
        }
        truths();
    }

    private static void truths() {
        for (int left = -2; left <= 2; left++) {
            gives("!(" + left + ")", left == 0 ? 1 : 0);
            for (int right = -2; right <= 2; right++) {
                gives("(" + left + ")|(" + right + ")", left != 0 || right != 0 ? 1 : 0);
                gives("(" + left + ")&(" + right + ")", left != 0 && right != 0 ? 1 : 0);
                gives(left + "<" + right, left < right ? 1 : 0);
                gives(left + "=" + right, left == right ? 1 : 0);
                gives(left + ">" + right, left > right ? 1 : 0);
            }
        }
    }

    /** What an E gives with a 5, b 2, w 7, t 3, v 1: by = if it has no B of its own, and by who has it. */
    private static void gives(String text, int due) {
        NineCarts x = world();
        DUE.is("8 " + text, Due.tell(x, text), 1);
        DUE.is("9 " + text, x.won(1, 52), due > 0 ? 1 : due < 0 ? 2 : 0);
        String number = due == LOW ? LOWEST : due == HIGH ? LOWEST + "-1" : due < -9999 || due > 9999 ? null : "" + due;
        if (number == null) return;
        DUE.is("8 (" + text + ")", Due.tell(x, "(" + text + ")=" + number), 1);
        DUE.is("9 (" + text + ") is " + due, x.won(1, 52), 1);
    }

    private static NineCarts world() {
        NineCarts x = new NineCarts();
        x.village(1, 0);
        x.village(7, 30);
        return x;
    }

    /** The first LINE without a first E, or whose first E is not 0, counts; none: 0. */
    private static void lines() {
        int[] values = {-1, 0, 1};
        String[] firsts = {"", "0?", "1?", "-1?"};
        int[] due = {2, 0, 1};
        for (String one : firsts) {
            for (String two : firsts) {
                for (int a = 0; a < 3; a++) {
                    for (int b = 0; b < 3; b++) {
                        NineCarts x = world();
                        Due.tell(x, one + values[a] + ";" + two + values[b]);
                        boolean first = !one.equals("0?");
                        boolean second = !two.equals("0?");
                        DUE.is("9 " + one + values[a] + ";" + two + values[b], x.won(0, 0), first ? due[a] : second ? due[b] : 0);
                    }
                }
            }
        }
        NineCarts x = world();
        Due.tell(x, "0?1;".repeat(29) + "0?-1");
        DUE.is("9 none counts", x.won(0, 90), 0);
        Due.tell(x, "0?1;".repeat(29) + "1?-1");
        DUE.is("9 the last counts", x.won(0, 90), 2);
        Due.tell(x, "1;" + "0;".repeat(58) + "0");
        DUE.is("9 the first counts", x.won(0, 9), 1);
    }

    /** a, b are 0 to 9, LOAVES or not; w 1 to 9; t 0 to 9; v 0 to 4. */
    private static void names() {
        for (int v = 0; v <= 4; v++) {
            NineCarts x = new NineCarts();
            for (int i = 0; i < 5; i++) x.village(1 + 2 * i, i == v ? 90 : 0);
            Due.tell(x, "v=" + v + "&w=" + (1 + 2 * v) + "&t=9");
            for (int other = 0; other <= 4; other++) DUE.is("9 names in " + v, x.won(other, 0), other == v ? 1 : 0);
            Due.tell(x, "a*10+b");
            DUE.is("9 nothing each", x.won(v, 0), 0);
            for (int ab = 1; ab <= 99; ab++) DUE.is("9 by loaves alone, noticed or not", x.won(v, ab), 1);
            Due.tell(x, "a*10+b=" + (v * 24 + 3));
            for (int ab = 0; ab <= 99; ab++) DUE.is("9 one pair of loaves", x.won(v, ab), ab == v * 24 + 3 ? 1 : 0);
        }
    }

    /** With a text neither WANT nor TIES count: above 0 BAKER 0 has it, below 0 BAKER 1, by 0 nobody. */
    private static void signsAlone() {
        String[] laws = {"0", "1", "-1", "a-a", "9999", "-9999", "0?1"};
        int[] due = {0, 1, 2, 0, 1, 2, 0};
        int[] scores = {0, 4, -4, 0, 4, -4, 0};
        for (int wt = 0; wt <= 92; wt++) {
            NineCarts x = new NineCarts();
            if (x.village(4, wt) == BAD) continue;
            for (int i = 0; i < laws.length; i++) {
                DUE.is("8 " + laws[i], Due.tell(x, laws[i]), 1);
                for (int ab = 0; ab <= 99; ab++) DUE.is("9 " + ab + " by " + laws[i] + ", wt " + wt, x.won(0, ab), due[i]);
                DUE.all("10 by " + laws[i] + ", wt " + wt, scores[i], x.score(0, 0), x.score(6, 6), x.score(1, 5), x.score(5, 1));
            }
        }
    }

    private static void wonRefused() {
        Look.everywhere(DUE, "9 no VILLAGE", BAD, x -> x.won(-1, 0), x -> x.won(5, 0), x -> x.won(LOW, 0), x -> x.won(HIGH, 0));
        Look.everywhere(DUE, "9 no loaves", BAD, x -> x.won(0, -1), x -> x.won(0, 100), x -> x.won(0, LOW), x -> x.won(0, HIGH));
        Look.refused(DUE, "9 one behind the last", BAD, Look::busy, x -> x.won(3, 0));
        Look.refused(DUE, "9 without VILLAGES", BAD, NineCarts::new, x -> x.won(0, 0));
        NineCarts x = world();
        DUE.is("9 the least", x.won(0, 0), 1);
        DUE.is("9 the most", x.won(1, 99), 1);
    }

    public static void main(String[] args) {
        tape();
        emptied();
        places();
        eachByte();
        digits();
        numbers();
        waiting();
        open();
        ints();
        lines();
        names();
        signsAlone();
        wonRefused();
        DUE.end("EdgeLawTest");
    }
}
