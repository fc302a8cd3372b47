/** Boundaries of what is asked against a MIX, and of YEARS: promises 10 to 15, 23, 24. */
public final class EdgeTradeTest {
    private static final int BAD = -1, VOID = -2000000000;
    private static final int LOW = Integer.MIN_VALUE, HIGH = Integer.MAX_VALUE;
    private static final Due DUE = new Due();

    private static NineCarts villages(int many, int ties, int loaves, int otherLoaves) {
        NineCarts x = new NineCarts();
        for (int v = 0; v < many; v++) x.village(1, ties);
        x.mend(0, 0, loaves);
        x.mend(1, 0, otherLoaves);
        return x;
    }

    private static void fraction(String what, long above, long below, long dueAbove, long dueBelow) {
        DUE.is(what + " above", above, dueAbove);
        DUE.is(what + " below", below, dueBelow);
    }

    private static void mean(String what, NineCarts x, long above, long below) {
        fraction("11 " + what, x.mean(0), x.mean(1), above, below);
    }

    private static void line(String what, NineCarts x, int baker, int n, long above, long below) {
        fraction("13 " + what, x.line(baker, n, 0), x.line(baker, n, 1), above, below);
    }

    private static void spy(String what, NineCarts x, int village, long above, long below) {
        fraction("14 " + what, x.spy(village, 0), x.spy(village, 1), above, below);
    }

    private static void broke(String what, NineCarts x, int c, long above, long below) {
        fraction("15 " + what, x.broke(c, 0), x.broke(c, 1), above, below);
    }

    private static void refused() {
        Look.everywhere(DUE, "10 no PARTING of 0", VOID, x -> x.score(-1, 0), x -> x.score(100000, 0), x -> x.score(LOW, 0),
            x -> x.score(HIGH, 0), x -> x.score(7, 0));
        Look.everywhere(DUE, "10 no PARTING of 1", VOID, x -> x.score(0, -1), x -> x.score(0, 100000), x -> x.score(0, LOW),
            x -> x.score(0, HIGH), x -> x.score(0, 7), x -> x.score(7, 7));
        Look.everywhere(DUE, "11 no part", Due.MIN, x -> x.mean(-1), x -> x.mean(2), x -> x.mean(LOW), x -> x.mean(HIGH));
        Look.everywhere(DUE, "12 no BAKER", BAD, x -> x.best(-1), x -> x.best(2), x -> x.best(LOW), x -> x.best(HIGH));
        Look.everywhere(DUE, "13 no BAKER", Due.MIN, x -> x.line(-1, 0, 0), x -> x.line(2, 0, 1), x -> x.line(HIGH, -1, 0));
        Look.everywhere(DUE, "13 no n", Due.MIN, x -> x.line(0, -2, 0), x -> x.line(1, 10, 1), x -> x.line(0, LOW, 0), x -> x.line(1, HIGH, 1));
        Look.everywhere(DUE, "13 no part", Due.MIN, x -> x.line(0, 0, -1), x -> x.line(1, 9, 2), x -> x.line(0, -1, HIGH));
        Look.everywhere(DUE, "14 no VILLAGE", Due.MIN, x -> x.spy(-1, 0), x -> x.spy(5, 1), x -> x.spy(LOW, 0), x -> x.spy(HIGH, 1));
        Look.everywhere(DUE, "14 no part", Due.MIN, x -> x.spy(0, -1), x -> x.spy(0, 2), x -> x.spy(4, LOW));
        Look.everywhere(DUE, "15 no c", Due.MIN, x -> x.broke(-1, 0), x -> x.broke(13, 1), x -> x.broke(LOW, 0), x -> x.broke(HIGH, 1));
        Look.everywhere(DUE, "15 no part", Due.MIN, x -> x.broke(0, -1), x -> x.broke(12, 2), x -> x.broke(6, HIGH));
        Look.refused(DUE, "14 one behind the last", Due.MIN, Look::busy, x -> x.spy(3, 0));
        Look.refused(DUE, "14 without VILLAGES", Due.MIN, NineCarts::new, x -> x.spy(0, 0), x -> x.spy(0, 1));
        Look.everywhere(DUE, "23 no BAKER", BAD, x -> x.year(-1, 0), x -> x.year(2, 30), x -> x.year(LOW, 0), x -> x.year(HIGH, 0));
        Look.everywhere(DUE, "23 no year", BAD, x -> x.year(0, -1), x -> x.year(1, 31), x -> x.year(0, LOW), x -> x.year(1, HIGH));
        Look.everywhere(DUE, "24 no year", VOID, x -> x.years(-1), x -> x.years(31), x -> x.years(LOW), x -> x.years(HIGH));
    }

    /** Nothing that is asked changes anything. */
    private static void asking() {
        String before = Look.told(Look.busy());
        Look.Call[] asked = {x -> x.mean(0), x -> x.best(0), x -> x.best(1), x -> x.line(0, 9, 0), x -> x.line(1, 0, 1), x -> x.spy(2, 0),
            x -> x.broke(12, 1), x -> x.year(0, 30), x -> x.year(1, 1), x -> x.years(30), x -> x.score(222, 311), x -> x.won(2, 99),
            x -> x.beaten(0, 222), x -> x.safest(1, 0), x -> x.ring(0), x -> x.rest(2), x -> x.sure(222), x -> x.most(1), x -> x.fewest(3)};
        for (int i = 0; i < asked.length; i++) {
            NineCarts x = Look.busy();
            asked[i].on(x);
            DUE.same("asking changes nothing [" + i + "]", Look.told(x), before);
        }
    }

    /** Without VILLAGES there is nothing to have; 0 by 1. */
    private static void noVillages() {
        NineCarts x = new NineCarts();
        for (int told = 0; told < 2; told++) {
            mean("no VILLAGES", x, 0, 1);
            broke("no VILLAGES", x, 12, 0, 1);
            for (int n = -1; n <= 9; n++) {
                line("no VILLAGES", x, 0, n, 0, 1);
                line("no VILLAGES", x, 1, n, 0, 1);
            }
            DUE.all("12, 23, 24 no VILLAGES", 0, x.best(0), x.best(1), x.year(0, 0), x.year(1, 30), x.years(0), x.years(30), x.score(0, 0));
            x.mix(0, 0, 7);
            x.mix(1, 0, 9);
        }
    }

    /** No MIX: a PARTING of nothing, on either side or both. */
    private static void noMix() {
        NineCarts x = villages(2, 2, 6, 6);
        mean("none told", x, 0, 1);
        spy("none told", x, 1, 0, 1);
        DUE.all("12 against nothing", 11, x.best(0), x.best(1));
        x.mix(0, 11, 9);
        mean("one told", x, 2, 1);
        broke("one told", x, 6, 1, 1);
        line("against nothing", x, 0, -1, 2, 1);
        line("against 11", x, 1, -1, 2, 1);
        line("against 11", x, 1, 0, -2, 1);
        spy("nothing is sent", x, 0, 0, 1);
        x.mix(0, 0, 0);
        x.mix(1, 11, 9);
        mean("the other told", x, -2, 1);
        broke("the other told", x, 6, -2, 1);
        line("against 11", x, 0, -1, 2, 1);
        line("against nothing", x, 1, 0, 0, 1);
    }

    /** One VILLAGE, the other's MIX of 1 to 8 loaves: each n has more and less of them below it. */
    private static void lines() {
        int[][] due = {{-1, 1}, {-7, 8}, {-5, 8}, {-3, 8}, {-1, 8}, {1, 8}, {3, 8}, {5, 8}, {7, 8}, {1, 1}};
        for (int baker = 0; baker <= 1; baker++) {
            NineCarts x = villages(1, 2, 9, 9);
            for (int k = 1; k <= 8; k++) x.mix(1 - baker, k, 5);
            for (int n = 0; n <= 9; n++) {
                line("by " + n, x, baker, n, due[n][0], due[n][1]);
                x.mend(baker, 0, n);
                line("as it has " + n, x, baker, -1, due[n][0], due[n][1]);
                DUE.is("12 all of " + n, x.best(baker), n);
                DUE.is("13 LOAVES stay", x.of(baker, 0), n);
            }
        }
    }

    /** In lowest terms, the sign above, 0 by 1. */
    private static void lowestTerms() {
        for (int worth = 1; worth <= 9; worth++) {
            for (int weight = 1; weight <= 9; weight++) {
                NineCarts x = new NineCarts();
                x.village(worth, 2);
                x.mix(0, 1, weight);
                x.mix(1, 2, weight);
                mean("one against two", x, -worth, 1);
                x.mix(1, 1, 9);
                int all = weight + 9;
                int common = gcd(worth * weight, all);
                mean("as many, too", x, -worth * weight / common, all / common);
                line("a third", x, 0, 1, -worth * weight / common, all / common);
            }
        }
        NineCarts x = villages(1, 2, 6, 6);
        x.mix(0, 1, 9);
        x.mix(0, 3, 9);
        x.mix(1, 2, 8);
        mean("one more, one less", x, 0, 1);
        broke("one more, one less", x, 0, 0, 1);
    }

    private static int gcd(int a, int b) {
        return b == 0 ? a : gcd(b, a % b);
    }

    /** Eight PARTINGS of nine each, on both sides: the largest WEIGHTS there are. */
    private static void largest() {
        NineCarts x = new NineCarts();
        for (int v = 0; v < 5; v++) x.village(9, 0);
        x.mend(0, 0, 9);
        x.mend(1, 0, 9);
        for (int i = 0; i < 8; i++) {
            x.mix(0, i == 0 ? 0 : 12222, 9);
            x.mix(1, 11111, 9);
        }
        // 00000 has none of five, 12222 has all: (-45 + 7 * 45) of 8
        mean("of 72 by 72", x, 135, 4);
        broke("of 72 by 72", x, 0, 135, 4);
        broke("of 72 by 72", x, 12, -45, 1);
        // 45 * 7 * (11 - 1) less 45 * 12, of 8 * 12
        broke("of 72 by 72", x, 1, 435, 16);
        line("nine", x, 0, 9, 45, 1);
        line("four", x, 0, 4, 27, 1);
        DUE.is("12 one each", x.best(0), 11111);
    }

    /** Twelve in all: 0 is MEAN, 12 is that none comes. */
    private static void twelve() {
        NineCarts x = villages(1, 2, 6, 6);
        x.mix(0, 1, 4);
        for (int c = 0; c <= 12; c++) {
            int common = gcd(12 - c, 12);
            broke("one cart against nothing", x, c, (12 - c) / common, 12 / common);
        }
        x.mix(1, 1, 3);
        for (int c = 0; c <= 12; c++) {
            int common = gcd(c, 12);
            broke("one cart against one", x, c, -c / common, 12 / common);
        }
        NineCarts two = villages(2, 0, 6, 6);
        two.mix(0, 10, 1);
        two.mix(1, 1, 1);
        // VILLAGE 0 is BAKER 0's in any case, VILLAGE 1 BAKER 1's; no cart goes there
        for (int c = 0; c <= 12; c++) broke("a cart without need", two, c, 0, 1);
        Due.tell(two, "a?1;-1");
        for (int c = 0; c <= 12; c++) broke("a cart in need", two, c, c == 0 ? 0 : -c / gcd(c, 6), c == 0 ? 1 : 6 / gcd(c, 6));
    }

    /** Of like ones the least number; not all LOAVES need be sent. */
    private static void likeOnes() {
        NineCarts x = villages(5, 2, 6, 6);
        DUE.all("12 one each", 11111, x.best(0), x.best(1));
        x.mend(0, 0, 3);
        DUE.is("12 the last ones", x.best(0), 111);
        x.mend(0, 0, 0);
        DUE.is("12 nothing", x.best(0), 0);
        for (String law : new String[] {"0", "1", "-1", "w", "-w"}) {
            Due.tell(x, law);
            DUE.all("12 all alike by " + law, 0, x.best(0), x.best(1), x.year(0, 7), x.year(1, 7));
        }
        x.mend(0, 0, 9);
        Due.tell(x, "a=9");
        DUE.is("12 nine to the last", x.best(0), 9);
        Due.tell(x, "v=0&a=9");
        DUE.is("12 nine to the first", x.best(0), 90000);
        Due.tell(x, "a=2|a=3");
        DUE.is("12 four of five by two each", x.best(0), 2222);
        Due.tell(x, "-(b=1)");
        DUE.is("12 of BAKER 1", x.best(1), 11111);
        x.mend(2, 1, 4);
        x.mend(1, 0, 1);
        DUE.is("12 the WORTH of 4", x.best(1), 100);
    }

    /** A SPY in either of two VILLAGES hears k or 0 loaves: BAKER 0 has k + 1, and one of two sure instead of half. */
    private static void spies() {
        for (int k = 2; k <= 8; k++) {
            NineCarts x = villages(2, 2, 9, 9);
            x.mix(1, 10 * k, 3);
            x.mix(1, k, 3);
            x.mend(0, 0, k + 1);
            for (int v = 0; v < 2; v++) spy("hears " + k, x, v, 1, 2);
        }
        NineCarts x = villages(5, 2, 6, 6);
        for (int v = 0; v <= 4; v++) spy("of nothing", x, v, 0, 1);
        // like loaves in VILLAGE 4 alone tell which of VILLAGES 0 and 1 will have three
        x.mix(1, 30001, 1);
        x.mix(1, 3000, 1);
        x.mend(0, 0, 4);
        Due.tell(x, "v<2?a>3&b=3;0");
        spy("which", x, 4, 1, 2);
        spy("which", x, 0, 1, 2);
        spy("alike in both", x, 2, 0, 1);
        spy("alike in both", x, 3, 0, 1);
    }

    /** By hand, one VILLAGE: 3 0, 1 4, 5 4, 5 6, 6 6, 6 6, .. */
    private static void years() {
        NineCarts x = villages(1, 2, 6, 6);
        x.mix(0, 3, 1);
        x.mix(0, 6, 9);
        int[] zero = {3, 1, 5, 5, 6, 6};
        int[] one = {0, 4, 4, 6, 6, 6};
        int[] sum = {1, 0, 1, 0, 0, 0};
        for (int y = 0; y <= 30; y++) {
            int at = Math.min(y, 5);
            DUE.is("23 BAKER 0 in " + y, x.year(0, y), zero[at]);
            DUE.is("23 BAKER 1 in " + y, x.year(1, y), one[at]);
            DUE.is("24 to " + y, x.years(y), sum[at]);
        }
        NineCarts all = villages(5, 0, 0, 0);
        for (int y = 0; y <= 30; y++) DUE.is("24 all five each year", all.years(y), 5 * (y + 1));
        Due.tell(all, "-1");
        for (int y = 0; y <= 30; y++) DUE.is("24 none of five each year", all.years(y), -5 * (y + 1));
        DUE.is("23 nothing to send", all.year(0, 30), 0);
    }

    /** In year 0 what was told first, however told; from year 1 on of the LOAVES of now. */
    private static void firstYear() {
        NineCarts x = villages(2, 2, 6, 6);
        x.mix(0, 60, 1);
        x.mend(0, 0, 1);
        DUE.is("23 six", x.year(0, 0), 60);
        DUE.is("23 one of now", x.year(0, 1), 1);
        DUE.is("23 against 60", x.year(1, 1), 1);
        x.village(1, 2);
        DUE.is("23 six, and nothing to the new one", x.year(0, 0), 600);
        x.mix(0, 0, 0);
        DUE.is("23 without: nothing", x.year(0, 0), 0);
        x.mix(0, 0, 9);
        x.mix(0, 1, 9);
        DUE.is("23 nothing is told first", x.year(0, 0), 0);
    }

    public static void main(String[] args) {
        refused();
        asking();
        noVillages();
        noMix();
        lines();
        lowestTerms();
        largest();
        twelve();
        likeOnes();
        spies();
        years();
        firstYear();
        DUE.end("EdgeTradeTest");
    }
}
