/** Boundaries of what is asked by all PARTINGS: promises 16 to 22. */
public final class EdgeDuelTest {
    private static final int BAD = -1, NOT = -2, STATE = -5, VOID = -2000000000;
    private static final int LOW = Integer.MIN_VALUE, HIGH = Integer.MAX_VALUE;
    private static final Due DUE = new Due();

    private static NineCarts villages(int many, int wt, int loaves, int otherLoaves) {
        NineCarts x = new NineCarts();
        for (int v = 0; v < many; v++) x.village(1, wt);
        x.mend(0, 0, loaves);
        x.mend(1, 0, otherLoaves);
        return x;
    }

    private static NineCarts tooMany() {
        return villages(5, 0, 7, 6);
    }

    private static NineCarts tooManyOthers() {
        return villages(5, 0, 6, 7);
    }

    private static NineCarts noneOfOthers() {
        return villages(0, 0, 0, 1);
    }

    /** STATE from 301 PARTINGS on (there are 330, but never 221 to 329), or where there is none. */
    private static void states() {
        for (int many = 0; many <= 5; many++) {
            for (int n = 0; n <= 9; n++) {
                state(villages(many, 2, n, 0), many, n, 0);
                state(villages(many, 2, 0, n), many, n, 1);
            }
            state(villages(many, 2, 6, 6), many, 6, 0);
            state(villages(many, 2, 9, 9), many, 9, 0);
        }
    }

    private static void state(NineCarts x, int many, int n, int baker) {
        // a SCORE of five VILLAGES of WORTH 1 could be -5, too
        for (int v = 0; v < many; v++) x.mend(v, 1, 2);
        int ways = x.of(baker, 3);
        boolean told = ways >= 1 && ways <= 300;
        DUE.is("as told", told ? 1 : 0, many == 0 ? n == 0 ? 1 : 0 : many == 5 && n >= 7 ? 0 : 1);
        long[] asked = {x.beaten(0, 0), x.beaten(1, 0), x.safest(0, 0), x.safest(0, 1), x.safest(1, 0), x.safest(1, 1), x.ring(0), x.ring(2),
            x.rest(0), x.rest(1), x.rest(2), x.most(0), x.most(1)};
        for (int i = 0; i < asked.length; i++) {
            DUE.is("STATE [" + i + "] with " + n + " over " + many, asked[i] == STATE ? 0 : 1, told ? 1 : 0);
        }
        DUE.is("20 never STATE", x.sure(0) >= 0 ? 1 : 0, 1);
        DUE.is("22 never STATE", x.fewest(0), 0);
    }

    private static void stateRefused() {
        Look.Call[] asked = {x -> x.beaten(0, 0), x -> x.beaten(1, 0), x -> x.safest(0, 0), x -> x.safest(1, 1), x -> x.ring(0),
            x -> x.ring(2), x -> x.rest(0), x -> x.rest(2), x -> x.most(0), x -> x.most(1)};
        Look.refused(DUE, "none", STATE, NineCarts::new, asked);
        Look.refused(DUE, "330", STATE, EdgeDuelTest::tooMany, asked);
        Look.refused(DUE, "330 of the other", STATE, EdgeDuelTest::tooManyOthers, asked);
        Look.refused(DUE, "none of the other", STATE, EdgeDuelTest::noneOfOthers, asked);
    }

    private static void everywhere(String what, long due, Look.Call... calls) {
        Look.everywhere(DUE, what, due, calls);
        Look.refused(DUE, what + " ahead of STATE", due, EdgeDuelTest::tooMany, calls);
        Look.refused(DUE, what + " ahead of STATE of the other", due, EdgeDuelTest::tooManyOthers, calls);
        Look.refused(DUE, what + " ahead of STATE of none", due, EdgeDuelTest::noneOfOthers, calls);
    }

    private static void refused() {
        everywhere("16 no BAKER", BAD, x -> x.beaten(-1, 0), x -> x.beaten(2, 0), x -> x.beaten(LOW, 0), x -> x.beaten(HIGH, 0));
        everywhere("16 no PARTING", BAD, x -> x.beaten(0, -1), x -> x.beaten(1, 100000), x -> x.beaten(0, 8), x -> x.beaten(1, 8),
            x -> x.beaten(0, LOW), x -> x.beaten(1, HIGH));
        everywhere("17 no BAKER", BAD, x -> x.safest(-1, 0), x -> x.safest(2, 1), x -> x.safest(LOW, 0), x -> x.safest(HIGH, 0));
        everywhere("17 no what", BAD, x -> x.safest(0, -1), x -> x.safest(1, 2), x -> x.safest(0, LOW), x -> x.safest(0, HIGH));
        everywhere("18 no k", BAD, x -> x.ring(-1), x -> x.ring(3), x -> x.ring(LOW), x -> x.ring(HIGH));
        everywhere("19 no what", VOID, x -> x.rest(-1), x -> x.rest(3), x -> x.rest(LOW), x -> x.rest(HIGH));
        everywhere("20 no PARTING", BAD, x -> x.sure(-1), x -> x.sure(8), x -> x.sure(100000), x -> x.sure(LOW), x -> x.sure(HIGH));
        everywhere("21 no what", BAD, x -> x.most(-1), x -> x.most(2), x -> x.most(LOW), x -> x.most(HIGH));
        everywhere("22 no k", BAD, x -> x.fewest(-1), x -> x.fewest(6), x -> x.fewest(LOW), x -> x.fewest(HIGH));
    }

    /** None that there is beats it, or all do; of like ones the least number. */
    private static void noneOrAll() {
        int[][] due = {{0, 0}, {1, 10}, {3, 33}};
        for (int[] one : due) {
            NineCarts x = villages(one[0], 2, one[0], one[0]);
            int ways = x.of(0, 3);
            int least = one[0];
            Due.tell(x, "0");
            DUE.all("16 none beats it", 0, x.beaten(0, 0), x.beaten(1, 0), x.safest(0, 1), x.safest(1, 1));
            DUE.all("17 the least", least, x.safest(0, 0), x.safest(1, 0), x.rest(0), x.rest(1));
            DUE.is("19 nobody has any", x.rest(2), 0);
            DUE.all("18 none beats another", NOT, x.ring(0), x.ring(1), x.ring(2));
            Due.tell(x, "1");
            boolean any = one[0] > 0;
            DUE.all("16 none of 1 beats one of 0", 0, x.beaten(0, 0), x.safest(0, 1));
            DUE.all("16 all of 0 beat one of 1", any ? ways : 0, x.beaten(1, 0), x.beaten(1, least), x.safest(1, 1));
            DUE.all("17 the least", least, x.safest(0, 0), x.safest(1, 0), x.rest(0), x.rest(1), x.most(0));
            DUE.is("19 BAKER 0 has all", x.rest(2), one[0]);
            DUE.is("21 all", x.most(1), one[0]);
            Due.tell(x, "-1");
            DUE.all("16 all of 1 beat one of 0", any ? ways : 0, x.beaten(0, 0), x.beaten(0, least), x.safest(0, 1));
            DUE.all("16 none of 0 beats one of 1", 0, x.beaten(1, 0), x.safest(1, 1));
            DUE.is("19 BAKER 1 has all", x.rest(2), -one[0]);
            DUE.is("18 none beats another", x.ring(0), NOT);
        }
    }

    /** 210 and 220 PARTINGS: each of them counts, the first and the last. */
    private static void longestRows() {
        int[][] rows = {{5, 6, 210, 60000}, {4, 9, 220, 9000}};
        for (int[] row : rows) {
            NineCarts x = villages(row[0], 2, row[1], row[1]);
            DUE.all("4 how many", row[2], x.of(0, 3), x.of(1, 3));
            Due.tell(x, "-1");
            DUE.all("16 by all", row[2], x.beaten(0, 0), x.safest(0, 1));
            Due.tell(x, "v=0&b=" + row[1] + "?-1;0");
            DUE.is("16 by the last alone", x.beaten(0, 0), 1);
            Due.tell(x, "v=" + (row[0] - 1) + "&b=" + row[1] + "?-1;0");
            DUE.is("16 by the first alone", x.beaten(0, 0), 1);
            Due.tell(x, "v=0?(a=" + row[1] + ")*2-1;0");
            DUE.is("17 the last alone", x.safest(0, 0), row[3]);
            DUE.is("17 the last alone", x.safest(0, 1), 0);
            DUE.is("19 the last alone", x.rest(0), row[3]);
            DUE.is("19 the last alone", x.rest(2), 1);
            DUE.is("21 the last alone", x.most(0), row[3]);
            Due.tell(x, "v=0?1-(b=" + row[1] + ")*2;0");
            DUE.is("17 the last alone", x.safest(1, 0), row[3]);
            DUE.is("17 the last alone", x.safest(1, 1), 0);
            DUE.is("19 the last alone", x.rest(1), row[3]);
        }
    }

    /** p is less than q and r, but r may be less than q; the last three there are. */
    private static void rings() {
        NineCarts x = villages(1, 2, 9, 9);
        Due.tell(x, "1");
        DUE.all("18 one PARTING alone", NOT, x.ring(0), x.ring(1), x.ring(2));
        NineCarts two = villages(2, 2, 1, 9);
        Due.tell(two, "1");
        DUE.all("18 two PARTINGS alone", NOT, two.ring(0), two.ring(1), two.ring(2));
        two.mend(0, 0, 2);
        DUE.is("18 three", two.ring(0), 2);
        DUE.is("18 three", two.ring(1), 11);
        DUE.is("18 three", two.ring(2), 20);
        Due.tell(two, "v=0?((a-b+3)%3=2)*2-1");
        DUE.is("18 r below q: 02", two.ring(0), 2);
        DUE.is("18 r below q: 11, as 0 less 1 is 2 of 3", two.ring(1), 11);
        Due.tell(two, "v=0?((a-b+3)%3=1)*2-1");
        DUE.is("18 0 less 2 is 1 of 3: 02", two.ring(0), 2);
        DUE.is("18 20 ahead of 11", two.ring(1), 20);
        DUE.is("18 11 behind 20", two.ring(2), 11);
        NineCarts last = villages(4, 2, 9, 0);
        Due.tell(last, "v>0?0;a<7?0;b<7?0;((a-b+3)%3=1)*2-1");
        // those with 7, 8, 9 to VILLAGE 0 alone beat any: 7 .. is beaten by 8 .., 8 .. by 9 .., 9 .. by 7 ..
        DUE.is("18 the first with seven", last.ring(0), 7002);
        DUE.is("18 that beats one with nine", last.ring(1), 9000);
        DUE.is("18 that beats the first with eight", last.ring(2), 8001);
        last.mend(1, 0, 9);
        DUE.is("18 whatever BAKER 1 has", last.ring(0), 7002);
    }

    /** Each time anew: a ring by one LAW or with so many LOAVES is none by others. */
    private static void ringsAnew() {
        NineCarts x = villages(3, 2, 3, 3);
        DUE.is("18 012, 201, 120", x.ring(1), 201);
        Due.tell(x, "0");
        DUE.all("18 none by 0", NOT, x.ring(0), x.ring(1), x.ring(2));
        Due.tell(x, "1");
        DUE.is("18 the first three by 1", x.ring(2), 21);
        Due.tell(x, "-1");
        DUE.all("18 none by -1", NOT, x.ring(0), x.ring(1), x.ring(2));
        Due.tell(x, "a-b");
        DUE.is("18 as by no LAW", x.ring(1), 201);
        x.mend(0, 0, 1);
        DUE.is("18 three alike with 1", x.ring(0), NOT);
        x.undo();
        DUE.is("18 and with 3 again", x.ring(0), 12);
        x.mend(0, 1, 9);
        DUE.is("18 who has VILLAGE 0 has most", x.ring(0), NOT);
    }

    /**
     * 220 PARTINGS over four VILLAGES, three of which tell by a LAW that p beats q, q beats r, r beats p alone (and
     * what is like them in each VILLAGE); p, q, r are any of all, far apart or near.
     */
    private static void ringsAnywhere() {
        int[][] all = new int[220][];
        int size = 0;
        for (int number = 0; number <= 9000; number++) {
            int[] digits = {number / 1000, number / 100 % 10, number / 10 % 10, number % 10};
            if (digits[0] + digits[1] + digits[2] + digits[3] == 9) all[size++] = digits;
        }
        int found = 0;
        for (int i = 0; i < 220; i++) found += ringOf(all, i, (i * 7 + 1 + i / 2) % 220, (i * 13 + 101) % 220);
        DUE.is("18 not too few were found: " + found, found > 150 ? 1 : 0, 1);
    }

    private static int ringOf(int[][] all, int p, int q, int r) {
        NineCarts x = new NineCarts();
        StringBuilder law = new StringBuilder();
        for (int v = 0; v < 4; v++) {
            x.village(v < 3 ? 3 : 7, 0);
            if (v == 3) break;
            law.append("v=").append(v).append('?');
            law.append(pair(all[p][v], all[q][v])).append('|').append(pair(all[q][v], all[r][v])).append('|').append(pair(all[r][v], all[p][v]));
            law.append(';');
        }
        x.mend(0, 0, 9);
        x.mend(1, 0, 9);
        DUE.is("8 " + law, Due.tell(x, law + "-1"), 1);
        boolean[][] beats = new boolean[220][220];
        for (int i = 0; i < 220; i++) {
            for (int j = 0; j < 220; j++) {
                boolean three = true;
                for (int v = 0; v < 3; v++) {
                    three &= is(all, v, i, j, p, q) || is(all, v, i, j, q, r) || is(all, v, i, j, r, p);
                }
                beats[i][j] = three;
            }
        }
        int[] first = firstRing(beats);
        for (int k = 0; k < 3; k++) {
            int due = NOT;
            if (first != null) due = ((all[first[k]][0] * 10 + all[first[k]][1]) * 10 + all[first[k]][2]) * 10 + all[first[k]][3];
            DUE.is("18 " + p + " " + q + " " + r + " [" + k + "]", x.ring(k), due);
        }
        return first == null ? 0 : 1;
    }

    private static String pair(int a, int b) {
        return "a=" + a + "&b=" + b;
    }

    private static boolean is(int[][] all, int v, int i, int j, int one, int other) {
        return all[i][v] == all[one][v] && all[j][v] == all[other][v];
    }

    private static int[] firstRing(boolean[][] beats) {
        for (int p = 0; p < beats.length; p++) {
            for (int q = p + 1; q < beats.length; q++) {
                for (int r = p + 1; beats[p][q] && r < beats.length; r++) {
                    if (r != q && beats[q][r] && beats[r][p]) return new int[] {p, q, r};
                }
            }
        }
        return null;
    }

    /** Where sending nothing, or less than all, would be better than any that there is: it is none of them. */
    private static void notAllUsed() {
        NineCarts x = villages(1, 2, 3, 2);
        Due.tell(x, "b-a");
        DUE.is("16 nothing is not beaten", x.beaten(0, 0), 0);
        DUE.is("16 2 is not beaten", x.beaten(0, 2), 0);
        DUE.is("16 3 is", x.beaten(0, 3), 1);
        DUE.is("17 but 3 is all there is", x.safest(0, 0), 3);
        DUE.is("17 but 3 is all there is", x.safest(0, 1), 1);
        DUE.is("17 of BAKER 1", x.safest(1, 0), 2);
        x.mend(1, 0, 4);
        DUE.is("17 of BAKER 1, more", x.safest(1, 1), 1);
        DUE.is("16 of BAKER 1, nothing", x.beaten(1, 0), 0);
        DUE.is("19 3 against 4", x.rest(2), 1);
        DUE.is("21 none is sure, as nothing may be sent", x.most(1), 0);
        NineCarts three = villages(3, 2, 4, 4);
        Due.tell(three, "b-a");
        three.mend(0, 0, 1);
        DUE.is("17 one loaf after four", three.safest(0, 0), 1);
        DUE.is("17 four loaves to one, beaten by one to the same", three.safest(1, 0), 4);
        DUE.is("17 four loaves to one, beaten by one to the same", three.safest(1, 1), 1);
    }

    /** None at rest; at rest the first of BAKER 0's, then the first of BAKER 1's. */
    private static void rests() {
        NineCarts x = villages(3, 2, 6, 6);
        DUE.all("19 none", NOT, x.rest(0), x.rest(1), x.rest(2));
        NineCarts one = villages(1, 2, 0, 0);
        for (int n = 0; n <= 9; n++) {
            for (int m = 0; m <= 9; m++) {
                one.mend(0, 0, n);
                one.mend(1, 0, m);
                DUE.is("19 all to one", one.rest(0), n);
                DUE.is("19 all to one", one.rest(1), m);
                DUE.is("19 all to one", one.rest(2), Integer.compare(n, m));
                DUE.is("16 all to one", one.beaten(0, n), m > n ? 1 : 0);
                DUE.is("16 nothing to one", one.beaten(0, 0), m > 0 ? 1 : 0);
                DUE.is("17 all to one", one.safest(1, 1), n > m ? 1 : 0);
            }
        }
        NineCarts least = villages(2, 0, 2, 2);
        Due.tell(least, "v=0?(a>0)*2-1;1-(b>0)*2");
        // BAKER 0 wants one to VILLAGE 0, BAKER 1 one to VILLAGE 1: 11 and 20, 01 and 11 are at rest
        DUE.is("19 11, not 20", least.rest(0), 11);
        DUE.is("19 02, not 11", least.rest(1), 2);
        DUE.is("19 one each", least.rest(2), 0);
    }

    /** One VILLAGE: BAKER 0 is sure of it from WANT on, if BAKER 1 has fewer, or, with TIES 0, no more. */
    private static void sureOfOne() {
        for (int want = 0; want <= 9; want++) {
            for (int ties = 0; ties <= 2; ties++) {
                NineCarts x = villages(1, 10 * want + ties, 9, 0);
                for (int others = 0; others <= 9; others++) {
                    x.mend(1, 0, others);
                    int need = Math.max(want, ties == 0 ? others : others + 1);
                    for (int a = 0; a <= 9; a++) DUE.is("20 " + a + " against " + others, x.sure(a), a >= need ? 1 : 0);
                    DUE.is("22 against " + others, x.fewest(1), need <= 9 ? need : NOT);
                    DUE.is("21 against " + others, x.most(1), need <= 9 ? 1 : 0);
                    DUE.all("22 no more than one", NOT, x.fewest(2), x.fewest(5));
                }
            }
        }
    }

    /** Five VILLAGES: for each k how many LOAVES it takes, and with 0 to 3 loaves of BAKER 1 that take one or more away. */
    private static void fewest() {
        NineCarts x = villages(5, 0, 0, 0);
        for (int k = 0; k <= 5; k++) DUE.is("22 against none", x.fewest(k), 0);
        for (int v = 0; v < 5; v++) x.mend(v, 2, 1);
        for (int k = 0; k <= 5; k++) DUE.is("22 one each is noticed", x.fewest(k), k);
        x.mend(4, 2, 6);
        DUE.is("22 one more would take ten", x.fewest(5), NOT);
        DUE.is("22 but four take four", x.fewest(4), 4);
        x.mend(4, 2, 5);
        DUE.is("22 nine, the most there are", x.fewest(5), 9);
        for (int v = 0; v < 5; v++) x.mend(v, 2, 0);
        x.mend(1, 0, 1);
        int[] one = {0, 0, 0, 0, 0, 5};
        for (int k = 0; k <= 5; k++) DUE.is("22 one loaf takes one with none", x.fewest(k), one[k]);
        x.mend(1, 0, 2);
        int[] two = {0, 0, 0, 0, 4, NOT};
        for (int k = 0; k <= 5; k++) DUE.is("22 two loaves take two with none", x.fewest(k), two[k]);
        DUE.is("22 LOAVES stay", x.of(0, 0), 0);
        DUE.is("22 0 whatever there is", x.fewest(0), 0);
        NineCarts none = new NineCarts();
        DUE.is("22 without VILLAGES", none.fewest(0), 0);
        for (int k = 1; k <= 5; k++) DUE.is("22 without VILLAGES", none.fewest(k), NOT);
    }

    /** MOST is of those that use up all, SURE of any; BAKER 1 need not use up all. */
    private static void used() {
        NineCarts x = villages(2, 2, 6, 6);
        Due.tell(x, "a=1&b<1");
        DUE.is("20 against some loaves", x.sure(11), 0);
        x.mend(1, 0, 0);
        DUE.is("20 both by one each", x.sure(11), 2);
        DUE.all("21 one of both where six are sent", 1, x.most(1), x.sure(15), x.sure(51));
        DUE.is("21 the first", x.most(0), 15);
        DUE.is("22 two are enough", x.fewest(2), 2);
        Due.tell(x, "b>0");
        DUE.is("20 nothing need be sent", x.sure(0), 0);
        x.mend(1, 0, 9);
        DUE.is("20 nor is it with nine", x.sure(0), 0);
        Due.tell(x, "b=9|b=8?-1;1");
        DUE.is("20 nine may go to one", x.sure(0), 1);
        x.mend(1, 0, 7);
        DUE.is("20 seven are too few", x.sure(0), 2);
        DUE.is("21 of like ones the least", x.most(0), 6);
        x.mend(0, 0, 0);
        DUE.is("21 nothing", x.most(0), 0);
        DUE.is("21 both by nothing", x.most(1), 2);
    }

    public static void main(String[] args) {
        states();
        stateRefused();
        refused();
        noneOrAll();
        longestRows();
        rings();
        ringsAnew();
        ringsAnywhere();
        notAllUsed();
        rests();
        sureOfOne();
        fewest();
        used();
        DUE.end("EdgeDuelTest");
    }
}
