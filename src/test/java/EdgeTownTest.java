/** Boundaries of VILLAGES, LOAVES, PARTINGS, MIXES, IMAGES and CHANGES: promises 1 to 6 and 25 to 28. */
public final class EdgeTownTest {
    private static final int BAD = -1, FULL = -3, STATE = -5, VOID = -2000000000, OTHER = -12;
    private static final int LOW = Integer.MIN_VALUE, HIGH = Integer.MAX_VALUE;
    private static final Due DUE = new Due();

    private static NineCarts villages(int many, int loaves, int otherLoaves) {
        NineCarts x = new NineCarts();
        for (int v = 0; v < many; v++) x.village(1, 2);
        x.mend(0, 0, loaves);
        x.mend(1, 0, otherLoaves);
        return x;
    }

    /** Promise 1: no VILLAGES, 6 LOAVES each, no MIX, no IMAGE, nothing on a SHELF or on THE TAPE. */
    private static void newObject() {
        NineCarts x = new NineCarts();
        for (int what = 0; what < 5; what++) DUE.is("1 count", x.count(what), 0);
        DUE.all("1 LOAVES", 6, x.of(0, 0), x.of(1, 0));
        DUE.all("1 no MIX", 0, x.of(0, 1), x.of(1, 1), x.of(0, 2), x.of(1, 2));
        DUE.all("1 no VILLAGE", BAD, x.of(0, 10), x.of(0, 11), x.of(0, 12), x.won(0, 0), x.mend(0, 1, 1), x.mend(0, 2, 0));
        DUE.all("1 a PARTING without VILLAGES is 0", 0, x.score(0, 0), x.sure(0), x.best(0), x.best(1), x.year(0, 30));
        DUE.all("1 and nothing else is one", BAD, x.mix(0, 1, 1), x.mix(0, 6, 1), x.sure(1), x.beaten(0, 1));
        DUE.all("1 no BODY", BAD, x.keep(0, 0), x.trace(0));
        DUE.all("1 SHELVES hold nothing", -11, x.taken(0, 0), x.taken(5, 7), x.put(0, 0, 1), x.shift(0, 0, 5, 0, 0));
        DUE.all("1 nothing is missing, so none comes", 0, x.mixes(0, 0, 1), x.mixes(5, 59, 18));
        DUE.all("1 none", STATE, x.back(), x.undo(), x.redo());
        DUE.is("1 an empty TAPE", x.law(), -100);
    }

    /** Two objects have nothing in common: "all memory is the class's own". */
    private static void apart() {
        String empty = Look.told(new NineCarts());
        String busy = Look.told(Look.busy());
        NineCarts x = new NineCarts();
        NineCarts y = Look.busy();
        NineCarts other = Look.full();
        DUE.same("1 untouched by others", Look.told(x), empty);
        DUE.same("1 untouched by others", Look.told(y), busy);
        DUE.same("1 made behind others", Look.told(new NineCarts()), empty);
        DUE.is("1 another stands", other.count(0), 5);
    }

    private static void worths() {
        for (int worth = 1; worth <= 9; worth++) {
            NineCarts x = new NineCarts();
            DUE.is("2 WORTH", x.village(worth, 0), 0);
            DUE.is("2 WORTH", x.of(0, 10), worth);
            DUE.is("2 WORTH counts", x.score(1, 0), worth);
        }
        Look.everywhere(DUE, "2 no WORTH", BAD, x -> x.village(0, 0), x -> x.village(10, 0), x -> x.village(-1, 0),
            x -> x.village(LOW, 0), x -> x.village(HIGH, 0));
    }

    private static void wants() {
        for (int wt = -30; wt <= 130; wt++) {
            NineCarts x = new NineCarts();
            boolean isOne = wt >= 0 && wt <= 92 && wt % 10 <= 2;
            DUE.is("2 wt " + wt, x.village(1, wt), isOne ? 0 : BAD);
            DUE.is("2 WANT of " + wt, x.of(0, 11), isOne ? wt / 10 : BAD);
            DUE.is("2 TIES of " + wt, x.of(0, 12), isOne ? wt % 10 : BAD);
        }
        Look.everywhere(DUE, "2 no wt", BAD, x -> x.village(1, -1), x -> x.village(1, 3), x -> x.village(9, 93),
            x -> x.village(1, 100), x -> x.village(1, -10), x -> x.village(1, LOW), x -> x.village(1, HIGH));
    }

    private static void fiveVillages() {
        NineCarts x = new NineCarts();
        for (int v = 0; v <= 4; v++) {
            DUE.is("2 count ahead", x.count(0), v);
            DUE.all("2 not there yet", BAD, x.of(v, 10), x.won(v, 0), x.mend(v, 1, 5), x.mend(v, 2, 5));
            DUE.is("2 as they come", x.village(9 - v, 10 * v), v);
            DUE.is("2 there", x.of(v, 10), 9 - v);
            DUE.is("2 there", x.won(v, 11 * v), 1);
        }
        Look.refused(DUE, "2 five are full", FULL, Look::full, y -> y.village(1, 0), y -> y.village(9, 92));
        Look.refused(DUE, "2 BAD ahead of FULL", BAD, Look::full, y -> y.village(0, 0), y -> y.village(1, 100));
        DUE.is("2 five are full", x.village(1, 0), FULL);
        DUE.all("2 VILLAGE 5 is not there", BAD, x.of(5, 10), x.won(5, 0), x.mend(5, 1, 5), x.of(-1, 10), x.won(-1, 0));
    }

    /** TIES 0: to BAKER 0, 1: to BAKER 1, 2: nobody, from WANT on; more from WANT on. */
    private static void noticed() {
        int[] tie = {1, 2, 0};
        for (int want = 0; want <= 9; want++) {
            for (int ties = 0; ties <= 2; ties++) {
                NineCarts x = new NineCarts();
                x.village(1, 10 * want + ties);
                for (int a = 0; a <= 9; a++) {
                    DUE.is("9 as many", x.won(0, 11 * a), a >= want ? tie[ties] : 0);
                    if (a < 9) DUE.is("9 one more", x.won(0, 10 * (a + 1) + a), a + 1 >= want ? 1 : 0);
                    if (a < 9) DUE.is("9 one less", x.won(0, 10 * a + a + 1), a + 1 >= want ? 2 : 0);
                }
            }
        }
    }

    /** Each value that may be told answers what it was; the next ones outside change nothing. */
    private static void mends() {
        NineCarts x = new NineCarts();
        x.village(9, 90);
        int[] was = {6, 9, 9};
        for (int what = 0; what <= 2; what++) {
            for (int v = what == 1 ? 1 : 0; v <= 9; v++) {
                DUE.is("3 " + what + " becomes " + v, x.mend(0, what, v), was[what]);
                was[what] = v;
                DUE.is("3 " + what + " is " + v, x.of(0, what == 0 ? 0 : 9 + what), v);
            }
        }
        DUE.is("3 BAKER 1's", x.mend(1, 0, 9), 6);
        DUE.is("3 BAKER 1's", x.mend(1, 0, 0), 9);
        DUE.is("3 BAKER 0's stay", x.of(0, 0), 9);
        Look.everywhere(DUE, "3 no LOAVES", BAD, y -> y.mend(0, 0, -1), y -> y.mend(0, 0, 10), y -> y.mend(1, 0, -1),
            y -> y.mend(1, 0, 10), y -> y.mend(0, 0, LOW), y -> y.mend(1, 0, HIGH));
        Look.everywhere(DUE, "3 no BAKER", BAD, y -> y.mend(-1, 0, 1), y -> y.mend(2, 0, 1), y -> y.mend(LOW, 0, 1),
            y -> y.mend(HIGH, 0, 1));
        Look.everywhere(DUE, "3 no WORTH, no WANT", BAD, y -> y.mend(0, 1, 0), y -> y.mend(0, 1, 10), y -> y.mend(0, 1, -1),
            y -> y.mend(0, 2, -1), y -> y.mend(0, 2, 10), y -> y.mend(0, 2, LOW), y -> y.mend(0, 1, HIGH));
        Look.everywhere(DUE, "3 no VILLAGE", BAD, y -> y.mend(5, 1, 1), y -> y.mend(5, 2, 1), y -> y.mend(-1, 1, 1),
            y -> y.mend(-1, 2, 1), y -> y.mend(LOW, 2, 1), y -> y.mend(HIGH, 1, 1));
        Look.everywhere(DUE, "3 no such what", BAD, y -> y.mend(0, -1, 1), y -> y.mend(0, 3, 1), y -> y.mend(0, LOW, 1),
            y -> y.mend(0, HIGH, 1), y -> y.mend(0, 10, 1), y -> y.mend(1, 12, 1));
        Look.refused(DUE, "3 one behind the last VILLAGE", BAD, Look::busy, y -> y.mend(3, 1, 1), y -> y.mend(3, 2, 1));
        Look.refused(DUE, "3 no VILLAGES", BAD, NineCarts::new, y -> y.mend(0, 1, 1), y -> y.mend(0, 2, 1));
    }

    private static void ofs() {
        for (int what = -3; what <= 16; what++) {
            boolean baker = what >= 0 && what <= 3;
            boolean village = what >= 10 && what <= 12;
            for (int number = -2; number <= 6; number++) {
                boolean isOne = baker && (number == 0 || number == 1) || village && number >= 0 && number <= 2;
                DUE.is("4 of(" + number + ", " + what + ")", Look.busy().of(number, what) == BAD ? 0 : 1, isOne ? 1 : 0);
            }
        }
        Look.everywhere(DUE, "4", BAD, x -> x.of(2, 0), x -> x.of(-1, 3), x -> x.of(0, 4), x -> x.of(0, 9), x -> x.of(0, 13),
            x -> x.of(0, -1), x -> x.of(5, 10), x -> x.of(-1, 12), x -> x.of(LOW, LOW), x -> x.of(HIGH, 11), x -> x.of(HIGH, 2));
    }

    /** With n LOAVES and so many VILLAGES: how many ways there are to use all up. */
    private static void fullPartings() {
        for (int many = 0; many <= 5; many++) {
            for (int n = 0; n <= 9; n++) {
                int ways = 0;
                for (int p = 0; p < Math.pow(10, many); p++) ways += digitSum(p) == n ? 1 : 0;
                DUE.is("4 " + n + " over " + many, villages(many, n, 0).of(0, 3), ways);
                DUE.is("4 " + n + " over " + many, villages(many, 0, n).of(1, 3), ways);
            }
        }
    }

    private static int digitSum(int number) {
        int sum = 0;
        for (int left = number; left > 0; left /= 10) sum += left % 10;
        return sum;
    }

    /** A PARTING has one digit for each VILLAGE, together no more than LOAVES. */
    private static void partings() {
        for (int many = 0; many <= 3; many++) {
            for (int n = 0; n <= 9; n++) {
                NineCarts x = villages(many, n, 9 - n);
                int end = (int) Math.pow(10, many);
                for (int p = -3; p <= end + 20; p++) {
                    DUE.is("a PARTING of 0: " + p, x.score(p, 0) == VOID ? 0 : 1, p >= 0 && p < end && digitSum(p) <= n ? 1 : 0);
                    DUE.is("a PARTING of 1: " + p, x.score(0, p) == VOID ? 0 : 1, p >= 0 && p < end && digitSum(p) <= 9 - n ? 1 : 0);
                }
            }
        }
        NineCarts x = villages(5, 9, 9);
        for (int p : new int[] {90000, 9, 9000, 11115, 33300, 12222, 10008, 0}) DUE.is("nine: " + p, x.mix(0, p, 1) > 0 ? 1 : 0, 1);
        x.mix(0, 0, 0);
        DUE.all("ten, or six digits", BAD, x.mix(0, 90001, 1), x.mix(0, 19000, 1), x.mix(0, 22222, 1), x.mix(0, 99999, 1),
            x.mix(0, 100000, 1), x.mix(0, 100001, 1), x.mix(0, 900000, 1), x.mix(0, -1, 1), x.mix(0, -90000, 1), x.mix(0, HIGH, 1),
            x.mix(0, LOW, 1), x.mix(0, 1 << 30, 1));
        DUE.is("none came", x.of(0, 1), 0);
        x.mend(0, 0, 8);
        DUE.all("of the LOAVES of now", BAD, x.mix(0, 90000, 1), x.mix(0, 9, 1), x.mix(0, 33300, 1));
        DUE.all("of the BAKER's own LOAVES", VOID, x.score(90000, 0), x.score(9, 9));
        DUE.is("of the BAKER's own LOAVES", x.score(80000, 90000), -1);
    }

    private static void mixWeights() {
        for (int weight = 1; weight <= 9; weight++) {
            NineCarts x = villages(2, 6, 6);
            DUE.is("5 WEIGHT " + weight, x.mix(1, 33, weight), 1);
            DUE.is("5 WEIGHT " + weight, x.of(1, 2), weight);
            DUE.is("5 the other has none", x.of(0, 2), 0);
        }
        Look.everywhere(DUE, "5 no WEIGHT", BAD, x -> x.mix(0, 0, -1), x -> x.mix(0, 0, 10), x -> x.mix(1, 0, LOW), x -> x.mix(1, 0, HIGH));
        Look.everywhere(DUE, "5 no BAKER", BAD, x -> x.mix(-1, 0, 1), x -> x.mix(2, 0, 1), x -> x.mix(-1, 0, 0), x -> x.mix(2, 0, 0),
            x -> x.mix(LOW, 0, 1), x -> x.mix(HIGH, 0, 0));
        Look.everywhere(DUE, "5 no PARTING", BAD, x -> x.mix(0, -1, 1), x -> x.mix(0, 100000, 1), x -> x.mix(1, 7, 1), x -> x.mix(0, HIGH, 9),
            x -> x.mix(0, LOW, 9));
    }

    /** Eight come; a ninth is FULL, but what is BAD is BAD; WEIGHT 0 empties, whatever the PARTING. */
    private static void mixFull() {
        for (int baker = 0; baker <= 1; baker++) {
            NineCarts x = villages(2, 6, 6);
            for (int i = 1; i <= 8; i++) {
                DUE.is("5 how many", x.mix(baker, i, 9) == (i <= 6 ? i : BAD) ? 1 : 0, 1);
            }
            DUE.is("5", x.mix(baker, 10, 9), 7);
            DUE.is("5 the last", x.mix(baker, 60, 9), 8);
            DUE.is("5 FULL", x.mix(baker, 60, 9), FULL);
            DUE.is("5 the sum of eight nines", x.of(baker, 2), 72);
            DUE.is("5 the other's has room", x.mix(1 - baker, 60, 9), 1);
            DUE.is("5 WEIGHT 0", x.mix(baker, LOW, 0), 0);
            DUE.is("5 empty", x.of(baker, 1), 0);
            DUE.is("5 empty", x.of(baker, 2), 0);
            DUE.is("5 empty twice", x.mix(baker, HIGH, 0), 0);
            DUE.is("5 the other's stays", x.of(1 - baker, 1), 1);
            DUE.is("5 from the start", x.mix(baker, 6, 1), 1);
        }
        Look.refused(DUE, "5 FULL", FULL, Look::full, x -> x.mix(0, 0, 1), x -> x.mix(1, 60000, 9));
        Look.refused(DUE, "5 BAD ahead of FULL", BAD, Look::full, x -> x.mix(0, 7, 1), x -> x.mix(1, 0, 10), x -> x.mix(1, 100000, 1));
    }

    /** What was told ahead of a VILLAGE, or with more LOAVES, stands as it is; VILLAGES without a digit have 0. */
    private static void mixStands() {
        NineCarts x = new NineCarts();
        x.mix(0, 0, 2);
        x.village(1, 2);
        x.mix(0, 6, 1);
        x.mix(1, 5, 1);
        DUE.is("2 of 0 against 5, 6 against 5", x.mean(0) * 3, -x.mean(1));
        x.village(2, 2);
        x.mix(1, 15, 1);
        DUE.is("5 its first is 0 still", x.year(0, 0), 0);
        DUE.is("5 5 has a 0 behind it", x.year(1, 0), 50);
        x.mix(0, 0, 0);
        x.mix(0, 51, 9);
        // 51 against 50: 0 and +2; 51 against 15: +1 and -2
        DUE.is("5 half of 2 less 1", x.mean(0), 1);
        DUE.is("5 half of 2 less 1", x.mean(1), 2);
        x.mend(0, 0, 0);
        x.mend(1, 0, 0);
        DUE.is("5 more than there are stands", x.mean(0), 1);
        DUE.is("5 more than there are stands", x.mean(1), 2);
        DUE.is("5 more than there are stands", x.year(0, 0), 51);
        DUE.is("5 more than there are stands in an IMAGE", x.image(), 3);
        x.mix(0, 0, 0);
        DUE.is("5 and comes back from it", x.back(), 3);
        DUE.is("5 and comes back from it", x.year(0, 0), 51);
        DUE.all("5 but none such comes", BAD, x.mix(0, 51, 1), x.mix(1, 1, 1));
        DUE.is("5 nothing does", x.mix(0, 0, 1), 2);
    }

    /** SHELF 0 has a ROW of ints of so many elements: PARTING 1 with WEIGHT 1, again and again. */
    private static NineCarts withRow(int length) {
        NineCarts x = villages(1, 6, 6);
        x.row(0, 2, length);
        for (int i = 0; i < length; i++) x.put(0, i, 1);
        return x;
    }

    /** It ends where the ROW ends, within a two, too. */
    private static void mixesEnds() {
        for (int length : new int[] {0, 1, 2, 3, 15, 16, 17, 59, 60}) {
            for (int i = 0; i <= length + 1; i++) {
                for (int n : new int[] {1, 2, 7, 8}) {
                    NineCarts x = withRow(length);
                    int due = Math.max(0, Math.min(n, (length - i) / 2));
                    DUE.is("6 " + n + " from " + i + " of " + length, x.mixes(0, i, n), due);
                    DUE.is("6 those came", x.of(0, 1), due);
                    DUE.is("6 to that BAKER", x.of(1, 1), 0);
                }
            }
        }
        for (int i : new int[] {-1, -2, -60, LOW, LOW + 1, HIGH, HIGH - 1, 60, 61, 1 << 30}) {
            DUE.is("6 from a place that is not there: " + i, withRow(60).mixes(0, i, 18), 0);
        }
    }

    /** It ends at one that is not as it may be; those ahead came. */
    private static void mixesAsTheyMayBe() {
        int[][] wrong = {{7, 1}, {-1, 1}, {10, 1}, {HIGH, 1}, {LOW, 1}, {1, 0}, {1, -1}, {1, 10}, {1, HIGH}, {1, LOW}, {7, 0}, {0, 256}};
        int[][] right = {{0, 1}, {6, 1}, {0, 9}, {6, 9}};
        for (int at = 0; at < 4; at++) {
            for (int[] two : wrong) {
                NineCarts x = withRow(10);
                x.mix(0, 2, 5);
                x.put(0, 2 * at, two[0]);
                x.put(0, 2 * at + 1, two[1]);
                DUE.is("6 ends at " + two[0] + " by " + two[1], x.mixes(0, 0, 5), at);
                DUE.is("6 those ahead came", x.of(0, 2), 5 + at);
            }
            for (int[] two : right) {
                NineCarts x = withRow(10);
                x.put(0, 2 * at, two[0]);
                x.put(0, 2 * at + 1, two[1]);
                DUE.is("6 all of " + two[0] + " by " + two[1], x.mixes(0, 0, 15), 5);
                DUE.is("6 all came", x.of(1, 2), 4 + two[1]);
            }
        }
    }

    /** It ends where the MIX is FULL; those ahead came. */
    private static void mixesFull() {
        for (int had = 0; had <= 8; had++) {
            NineCarts x = withRow(60);
            for (int i = 0; i < had; i++) x.mix(1, 1, 1);
            DUE.is("6 up to eight", x.mixes(0, 3, 18), 8 - had);
            DUE.is("6 eight", x.of(1, 1), 8);
            DUE.is("6 no room", x.mixes(0, 3, 11), 0);
        }
        NineCarts x = villages(1, 6, 6);
        x.row(0, 2, 4);
        x.put(0, 0, 4);
        x.put(0, 1, 9);
        x.put(0, 2, 5);
        x.put(0, 3, 3);
        DUE.is("6 in their order", x.mixes(0, 0, 2), 2);
        DUE.is("6 in their order", x.year(0, 0), 4);
        DUE.is("6 with their WEIGHTS", x.of(0, 2), 12);
    }

    private static void mixesRefused() {
        Look.everywhere(DUE, "6 no SHELF", BAD, x -> x.mixes(-1, 0, 1), x -> x.mixes(6, 0, 1), x -> x.mixes(LOW, 0, 1), x -> x.mixes(HIGH, 0, 1));
        Look.everywhere(DUE, "6 no bn", BAD, x -> x.mixes(1, 0, 0), x -> x.mixes(1, 0, 9), x -> x.mixes(1, 0, 10), x -> x.mixes(1, 0, 19),
            x -> x.mixes(1, 0, 20), x -> x.mixes(1, 0, 21), x -> x.mixes(1, 0, -1), x -> x.mixes(1, 0, -9), x -> x.mixes(1, 0, -11),
            x -> x.mixes(1, 0, LOW), x -> x.mixes(1, 0, HIGH));
        Look.refused(DUE, "6 no ROW of ints", OTHER, Look::busy, x -> x.mixes(0, 0, 1), x -> x.mixes(2, 0, 1), x -> x.mixes(3, 0, 11),
            x -> x.mixes(4, 0, 18), x -> x.mixes(2, 99, 1), x -> x.mixes(2, -1, 1));
        Look.refused(DUE, "6 BAD ahead of -12", BAD, Look::busy, x -> x.mixes(0, 0, 0), x -> x.mixes(2, 0, 21), x -> x.mixes(6, 0, 21));
        Look.refused(DUE, "6 BAD ahead of a missing one", BAD, Look::busy, x -> x.mixes(5, 0, 0), x -> x.mixes(5, 0, 19));
        Look.refused(DUE, "6 missing: none comes", 0, Look::busy, x -> x.mixes(5, 0, 1), x -> x.mixes(5, -1, 18), x -> x.mixes(5, HIGH, 8));
        for (int sort = 0; sort <= 4; sort++) {
            NineCarts x = new NineCarts();
            x.row(0, sort, 2);
            x.put(0, 1, 1);
            DUE.is("6 a ROW of sort " + sort, x.mixes(0, 0, 1), sort == 2 ? 1 : OTHER);
        }
        for (int bn = -12; bn <= 32; bn++) {
            boolean isOne = bn >= 1 && bn <= 8 || bn >= 11 && bn <= 18;
            NineCarts x = withRow(60);
            DUE.is("6 bn " + bn, x.mixes(0, 0, bn), isOne ? bn % 10 : BAD);
            DUE.is("6 bn " + bn, x.of(bn / 10 == 1 ? 1 : 0, 1), isOne ? bn % 10 : 0);
        }
        for (int shelf = -2; shelf <= 7; shelf++) {
            NineCarts x = new NineCarts();
            x.row(shelf, 2, 2);
            x.put(shelf, 1, 1);
            DUE.is("6 SHELF " + shelf, x.mixes(shelf, 0, 1), shelf >= 0 && shelf <= 5 ? 1 : BAD);
        }
    }

    /** AN IMAGE: none, of nothing, of eight each. */
    private static void images() {
        Look.refused(DUE, "26 none", STATE, NineCarts::new, x -> x.back());
        NineCarts x = villages(1, 6, 6);
        x.mix(0, 3, 1);
        DUE.is("26 none", x.back(), STATE);
        DUE.is("26 nothing changed", x.of(0, 1), 1);
        x.mix(0, 0, 0);
        DUE.is("25 of nothing", x.image(), 0);
        x.mix(0, 3, 1);
        x.mix(1, 3, 1);
        DUE.is("26 nothing", x.back(), 0);
        DUE.all("26 both are empty", 0, x.of(0, 1), x.of(1, 1), x.year(0, 0), x.mean(0));
        for (int i = 0; i < 8; i++) {
            x.mix(0, i % 7, 1 + i);
            x.mix(1, 6 - i % 7, 9 - i);
        }
        DUE.is("25 all", x.image(), 16);
        long mean = x.mean(0);
        x.mix(0, 0, 0);
        x.mix(1, 0, 0);
        x.mix(1, 4, 4);
        for (int i = 0; i < 2; i++) {
            DUE.is("26 all", x.back(), 16);
            DUE.is("26 WEIGHTS", x.of(0, 2), 36);
            DUE.is("26 WEIGHTS", x.of(1, 2), 44);
            DUE.is("26 as they were", x.mean(0), mean);
            DUE.is("26 FULL again", x.mix(0, 1, 1), FULL);
        }
        x.mend(0, 0, 1);
        x.mend(0, 1, 5);
        DUE.is("26 MIXES alone", x.back(), 16);
        DUE.is("26 LOAVES stay", x.of(0, 0), 1);
        DUE.is("26 WORTHS stay", x.of(0, 10), 5);
        DUE.is("26 CHANGES stay", x.count(2), 2);
    }

    /** AN IMAGE stays, whatever comes in between and however much of it. */
    private static void imageStays() {
        NineCarts x = villages(1, 6, 6);
        x.mix(0, 4, 3);
        x.mix(1, 3, 2);
        DUE.is("25", x.image(), 2);
        for (int i = 0; i < 45; i++) x.mend(i % 2, 0, i % 10);
        for (int i = 0; i < 40; i++) x.undo();
        for (int i = 0; i < 20; i++) x.redo();
        for (int i = 0; i < 5; i++) x.village(1, 2);
        for (int i = 0; i < 9; i++) x.mix(i % 2, 0, 1 + i);
        for (int i = 0; i < 50; i++) x.body(i % 8);
        for (int i = 0; i < 6; i++) x.row(i, i % 5, 10 * i);
        Due.tell(x, "0");
        Due.tell(x, "?");
        Due.tell(x, "a-b");
        x.mix(0, 0, 0);
        DUE.is("26", x.back(), 2);
        DUE.is("26 4 0 0 0 0 against 3 0 0 0 0", x.mean(0), 1);
        DUE.is("26 4 and the new ones have 0", x.year(0, 0), 40000);
        DUE.is("26 WEIGHT", x.of(0, 2), 3);
        DUE.is("26 WEIGHT", x.of(1, 2), 2);
    }

    /** Of each of eight PARTINGS on both sides each digit and the WEIGHT is kept, whatever comes in their place. */
    private static void imageOfAll() {
        NineCarts x = villages(5, 9, 9);
        for (int i = 0; i < 8; i++) {
            x.mix(0, 10000 + 1111 * (i % 3), 1 + i);
            x.mix(1, 90000 / (int) Math.pow(10, i % 5), 9 - i);
        }
        String before = mixesOf(x);
        x.image();
        for (int time = 0; time < 2; time++) {
            for (int baker = 0; baker <= 1; baker++) {
                x.mix(baker, 0, 0);
                for (int i = 0; i < 8; i++) x.mix(baker, 4005 + 10 * time, 1 + time);
            }
            DUE.is("26 others came in their place", before.equals(mixesOf(x)) ? 1 : 0, 0);
            DUE.is("26", x.back(), 16);
            DUE.same("26 each is as it was", mixesOf(x), before);
        }
    }

    /** How much of the MIXES sends so many loaves to a VILLAGE: MEAN by a LAW of its own for each. */
    private static String mixesOf(NineCarts x) {
        StringBuilder text = new StringBuilder();
        for (int v = 0; v < 5; v++) {
            for (int n : new int[] {1, 2, 3, 5, 9}) {
                for (String name : new String[] {"a", "b"}) {
                    Due.tell(x, "v=" + v + "&" + name + "=" + n);
                    text.append(' ').append(x.mean(0)).append('/').append(x.mean(1));
                }
            }
        }
        return text.toString();
    }

    /** CHANGES: none, one, 40, 41; DONE AGAIN as long as no other came behind. */
    private static void changes() {
        Look.refused(DUE, "27 none", STATE, NineCarts::new, x -> x.undo(), x -> x.redo());
        Look.refused(DUE, "28 none", STATE, Look::full, x -> x.redo());
        for (int many : new int[] {1, 2, 39, 40, 41, 42, 90}) {
            NineCarts x = new NineCarts();
            for (int i = 0; i < many; i++) x.mend(0, 0, i % 2 == 0 ? 7 : 8);
            int kept = Math.min(many, 40);
            DUE.is("38 of " + many, x.count(2), kept);
            DUE.is("28 none", x.redo(), STATE);
            for (int i = kept - 1; i >= 0; i--) DUE.is("27 of " + many, x.undo(), i);
            DUE.is("27 none", x.undo(), STATE);
            DUE.is("38 none", x.count(2), 0);
            DUE.is("27 as ahead of the first that is kept", x.of(0, 0), many <= 40 ? 6 : many % 2 == 0 ? 8 : 7);
            for (int i = kept - 1; i >= 0; i--) DUE.is("28 of " + many, x.redo(), i);
            DUE.is("28 none", x.redo(), STATE);
            DUE.is("28 as it was", x.of(0, 0), many % 2 == 0 ? 8 : 7);
            DUE.is("38 all", x.count(2), kept);
        }
    }

    /** With 40 kept, some undone: another comes behind those that are left. */
    private static void changesBehind() {
        for (int undone = 0; undone <= 40; undone++) {
            NineCarts x = new NineCarts();
            for (int i = 0; i < 40; i++) x.mend(0, 0, i % 2 == 0 ? 7 : 8);
            for (int i = 0; i < undone; i++) x.undo();
            DUE.is("27", x.count(2), 40 - undone);
            x.mend(1, 0, 3);
            DUE.is("3 behind", x.count(2), Math.min(40, 41 - undone));
            DUE.is("28 none", x.redo(), STATE);
            DUE.is("27 that one first", x.undo(), Math.min(39, 40 - undone));
            DUE.is("27 that one first", x.of(1, 0), 6);
            DUE.is("28 that one alone", x.redo(), 0);
            DUE.is("28 that one alone", x.of(1, 0), 3);
        }
    }

    /** What is no other CHANGE: what was refused, what stood already, VILLAGES, MIXES, IMAGES. */
    private static void notBehind() {
        Look.Call[] none = {x -> x.mend(0, 0, 10), x -> x.mend(0, 0, 4), x -> x.mend(0, 1, 3), x -> x.village(1, 0), x -> x.mix(0, 0, 1),
            x -> x.image(), x -> x.mend(7, 1, 1), x -> Due.tell(x, "a"), x -> x.row(0, 0, 1), x -> x.redo() + x.undo()};
        for (Look.Call call : none) {
            NineCarts x = new NineCarts();
            x.village(3, 0);
            x.mend(0, 0, 4);
            x.mend(1, 0, 2);
            x.undo();
            call.on(x);
            DUE.is("28 one may be done again", x.redo(), 0);
            DUE.is("28 that one", x.of(1, 0), 2);
            DUE.is("38 two may be undone", x.count(2), 2);
        }
    }

    public static void main(String[] args) {
        newObject();
        apart();
        worths();
        wants();
        fiveVillages();
        noticed();
        mends();
        ofs();
        fullPartings();
        partings();
        mixWeights();
        mixFull();
        mixStands();
        mixesEnds();
        mixesAsTheyMayBe();
        mixesFull();
        mixesRefused();
        images();
        imageStays();
        imageOfAll();
        changes();
        changesBehind();
        notBehind();
        DUE.end("EdgeTownTest");
    }
}
