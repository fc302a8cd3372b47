/** Each promise by answers worked out by hand from the document: ordinary ones, edges, wrong inputs. */
public final class PromisesTest {
    private static final int BAD = -1, NOT = -2, FULL = -3, STATE = -5, VOID = -2000000000;
    private static final int LOW = Integer.MIN_VALUE, HIGH = Integer.MAX_VALUE;
    private static final Due DUE = new Due();

    /** VILLAGES of WORTH 3 and 5, like loaves to nobody, 2 LOAVES each: few enough to do by hand. */
    private static NineCarts small() {
        NineCarts x = new NineCarts();
        x.village(3, 2);
        x.village(5, 2);
        x.mend(0, 0, 2);
        x.mend(1, 0, 2);
        return x;
    }

    /** small() with MIXES: 02 once and 11 twice; 11 once and 20 three times. */
    private static NineCarts mixed() {
        NineCarts x = small();
        x.mix(0, 2, 1);
        x.mix(0, 11, 2);
        x.mix(1, 11, 1);
        x.mix(1, 20, 3);
        return x;
    }

    /** So many VILLAGES of WORTH 1, like loaves to nobody. */
    private static NineCarts even(int villages, int loaves, int otherLoaves) {
        NineCarts x = new NineCarts();
        for (int v = 0; v < villages; v++) x.village(1, 2);
        x.mend(0, 0, loaves);
        x.mend(1, 0, otherLoaves);
        return x;
    }

    private static void newObject() {
        NineCarts x = new NineCarts();
        DUE.is("1 BAD", NineCarts.BAD, BAD);
        DUE.is("1 NOT", NineCarts.NOT, NOT);
        DUE.is("1 FULL", NineCarts.FULL, FULL);
        DUE.is("1 STATE", NineCarts.STATE, STATE);
        DUE.is("1 VOID", NineCarts.VOID, VOID);
        for (int what = 0; what <= 4; what++) DUE.is("1 count", x.count(what), 0);
        DUE.all("1 loaves", 6, x.of(0, 0), x.of(1, 0));
        DUE.all("1 no mixes", 0, x.of(0, 1), x.of(1, 1), x.of(0, 2), x.of(1, 2));
        DUE.all("1 no full partings", 0, x.of(0, 3), x.of(1, 3));
        DUE.is("1 no image", x.back(), STATE);
        DUE.all("1 no changes", STATE, x.undo(), x.redo());
        for (int shelf = 0; shelf < 6; shelf++) DUE.is("1 shelf", x.taken(shelf, 0), -11);
    }

    private static void village() {
        NineCarts x = new NineCarts();
        DUE.all("2 bad worth", BAD, x.village(0, 0), x.village(10, 0), x.village(-1, 0), x.village(LOW, 0));
        DUE.all("2 bad wt", BAD, x.village(1, 3), x.village(1, 9), x.village(1, 93), x.village(1, 100),
            x.village(1, -1), x.village(1, -10), x.village(1, HIGH), x.village(1, LOW));
        DUE.is("2 none came", x.count(0), 0);
        DUE.is("2 first", x.village(9, 92), 0);
        DUE.is("2 second", x.village(1, 1), 1);
        DUE.is("2 want", x.of(0, 11), 9);
        DUE.is("2 ties", x.of(0, 12), 2);
        DUE.is("2 ties", x.of(1, 12), 1);
        x.village(1, 0);
        x.village(1, 0);
        DUE.is("2 last", x.village(1, 0), 4);
        DUE.is("2 full", x.village(1, 0), FULL);
        DUE.is("2 bad ahead of full", x.village(0, 0), BAD);
        DUE.is("2 count", x.count(0), 5);
    }

    private static void mend() {
        NineCarts x = new NineCarts();
        x.village(4, 31);
        DUE.is("3 loaves", x.mend(0, 0, 9), 6);
        DUE.is("3 loaves", x.mend(1, 0, 0), 6);
        DUE.is("3 loaves again", x.mend(0, 0, 9), 9);
        DUE.is("3 worth", x.mend(0, 1, 9), 4);
        DUE.is("3 want", x.mend(0, 2, 0), 3);
        DUE.is("3 want", x.mend(0, 2, 9), 0);
        DUE.is("3 changed", x.of(0, 10), 9);
        DUE.is("3 changed", x.of(0, 11), 9);
        DUE.is("3 unchanged", x.of(0, 12), 1);
        DUE.all("3 bad number", BAD, x.mend(2, 0, 1), x.mend(-1, 0, 1), x.mend(1, 1, 1), x.mend(1, 2, 1),
            x.mend(-1, 1, 1), x.mend(HIGH, 0, 1), x.mend(LOW, 2, 1));
        DUE.all("3 bad what", BAD, x.mend(0, -1, 1), x.mend(0, 3, 1), x.mend(0, LOW, 1));
        DUE.all("3 bad v", BAD, x.mend(0, 0, -1), x.mend(0, 0, 10), x.mend(0, 1, 0), x.mend(0, 1, 10),
            x.mend(0, 2, -1), x.mend(0, 2, 10), x.mend(0, 2, HIGH));
        DUE.is("3 what was bad, or is as it was, is no change", x.count(2), 5);
    }

    /** A mend to what stands already answers it, and is no CHANGE. */
    private static void mendToTheSame() {
        NineCarts x = new NineCarts();
        x.village(4, 31);
        DUE.all("3 loaves as they were", 6, x.mend(0, 0, 6), x.mend(1, 0, 6));
        DUE.is("3 worth as it was", x.mend(0, 1, 4), 4);
        DUE.is("3 want as it was", x.mend(0, 2, 3), 3);
        DUE.is("38 none may be undone", x.count(2), 0);
        DUE.is("27 none", x.undo(), STATE);
        x.mend(0, 0, 7);
        x.mend(0, 1, 8);
        x.mend(0, 2, 9);
        DUE.is("27 of three", x.undo(), 2);
        DUE.is("27 of three", x.undo(), 1);
        DUE.is("3 loaves as mended", x.mend(0, 0, 7), 7);
        DUE.is("3 worth as undone", x.mend(0, 1, 4), 4);
        DUE.is("3 want as undone", x.mend(0, 2, 3), 3);
        DUE.is("38 one may still be undone", x.count(2), 1);
        DUE.is("28 none came behind", x.redo(), 1);
        DUE.is("28 worth again", x.of(0, 10), 8);
        DUE.is("28 none came behind", x.redo(), 0);
        DUE.is("28 want again", x.of(0, 11), 9);
        for (int i = 0; i < 50; i++) x.mend(0, 2, 9);
        DUE.is("38 none of 50 is kept", x.count(2), 3);
        for (int i = 0; i < 3; i++) x.undo();
        DUE.is("27 the first of three", x.of(0, 0), 6);
        DUE.is("3 another comes behind", x.mend(1, 0, 1), 6);
        DUE.is("28 none", x.redo(), STATE);
        DUE.is("3 back by a mend", x.mend(1, 0, 6), 1);
        DUE.is("3 back by a mend is a change, too", x.count(2), 2);
    }

    private static void of() {
        NineCarts x = mixed();
        DUE.is("4 loaves", x.of(0, 0), 2);
        DUE.is("4 partings", x.of(1, 1), 2);
        DUE.is("4 weights", x.of(0, 2), 3);
        DUE.is("4 weights", x.of(1, 2), 4);
        DUE.is("4 full: 02, 11, 20", x.of(0, 3), 3);
        DUE.is("4 worth", x.of(1, 10), 5);
        DUE.all("4 bad number", BAD, x.of(2, 0), x.of(-1, 0), x.of(2, 3), x.of(2, 10), x.of(-1, 12), x.of(HIGH, 1));
        DUE.all("4 bad what", BAD, x.of(0, 4), x.of(0, 9), x.of(0, 13), x.of(0, -1), x.of(0, LOW), x.of(0, HIGH));
        int[] ways = {0, 1, 10, 55, 220, 715};
        for (int villages = 0; villages <= 5; villages++) {
            DUE.is("4 full with 9", even(villages, 9, 0).of(0, 3), ways[villages]);
            DUE.is("4 full with 0", even(villages, 9, 0).of(1, 3), 1);
        }
    }

    private static void mix() {
        NineCarts x = small();
        DUE.is("5 first", x.mix(0, 0, 1), 1);
        DUE.is("5 second", x.mix(0, 20, 9), 2);
        DUE.is("5 the other's", x.mix(1, 11, 4), 1);
        DUE.all("5 bad baker", BAD, x.mix(2, 0, 1), x.mix(-1, 0, 1), x.mix(2, 0, 0), x.mix(LOW, 0, 0));
        DUE.all("5 bad weight", BAD, x.mix(0, 0, 10), x.mix(0, 0, -1), x.mix(0, 0, HIGH), x.mix(0, 0, LOW));
        DUE.all("5 bad parting", BAD, x.mix(0, 3, 1), x.mix(0, 21, 1), x.mix(0, 30, 1), x.mix(0, -1, 1),
            x.mix(0, 100, 1), x.mix(0, HIGH, 1), x.mix(0, LOW, 1));
        for (int i = 3; i <= 8; i++) DUE.is("5 more", x.mix(0, 1, 1), i);
        DUE.is("5 full", x.mix(0, 1, 1), FULL);
        DUE.is("5 bad ahead of full", x.mix(0, 3, 1), BAD);
        DUE.is("5 weights", x.of(0, 2), 16);
        DUE.is("5 emptied, whatever the parting", x.mix(0, -7, 0), 0);
        DUE.is("5 emptied", x.of(0, 1), 0);
        DUE.is("5 emptied", x.of(0, 2), 0);
        DUE.is("5 the other's stays", x.of(1, 1), 1);
        NineCarts none = new NineCarts();
        DUE.is("5 without villages", none.mix(0, 0, 3), 1);
        DUE.is("5 without villages", none.mix(0, 1, 3), BAD);
    }

    /** What was told with fewer VILLAGES or more LOAVES stands as it is. */
    private static void mixStands() {
        NineCarts x = small();
        x.mix(0, 20, 1);
        x.mix(1, 11, 1);
        DUE.is("5 20 against 11", x.mean(0), -2);
        x.village(9, 0);
        DUE.is("5 200 against 110", x.mean(0), 7);
        DUE.is("5 its first is 200 now", x.year(0, 0), 200);
        x.mend(0, 0, 0);
        DUE.is("5 more than there are stands", x.mean(0), 7);
        DUE.is("5 more than there are stands", x.year(0, 0), 200);
        DUE.is("5 but comes no more", x.mix(0, 200, 1), BAD);
    }

    private static void mixes() {
        NineCarts x = small();
        x.row(0, 2, 10);
        int[] row = {7, 2, 1, 11, 2, 20, 9, 0, 0, 1};
        for (int i = 0; i < row.length; i++) x.put(0, i, row[i]);
        DUE.is("6 three came", x.mixes(0, 1, 3), 3);
        DUE.is("6 weights", x.of(0, 2), 12);
        DUE.is("6 as many as told", x.mixes(0, 1, 12), 2);
        DUE.is("6 the other's", x.of(1, 2), 3);
        DUE.is("6 ends at a weight that is none", x.mixes(0, 5, 13), 1);
        DUE.is("6 ends within a two", x.mixes(0, 9, 11), 0);
        DUE.is("6 ends at a parting that is none", x.mixes(0, 0, 11), 0);
        DUE.is("6 a weight 0 empties nothing", x.mixes(0, 7, 11), 0);
        DUE.is("6 count", x.of(1, 1), 3);
        DUE.all("6 places that are not there", 0, x.mixes(0, 10, 11), x.mixes(0, 60, 11), x.mixes(0, -1, 11),
            x.mixes(0, HIGH, 11), x.mixes(0, LOW, 11));
        DUE.is("6 up to full", x.mixes(0, 1, 13), 3);
        DUE.is("6 full: those ahead came", x.mixes(0, 1, 13), 2);
        DUE.is("6 full", x.mixes(0, 1, 13), 0);
        DUE.is("6 full", x.of(1, 1), 8);
        DUE.is("6 missing", x.mixes(1, 0, 1), 0);
        x.mix(1, 0, 0);
        x.row(3, 2, 2);
        x.put(3, 0, 20);
        x.put(3, 1, 9);
        DUE.is("6 to the row's very end", x.mixes(3, 0, 18), 1);
        x.row(4, 2, 60);
        x.put(4, 58, 11);
        x.put(4, 59, 1);
        DUE.is("6 to the longest row's very end", x.mixes(4, 58, 18), 1);
        DUE.is("6 the longest row ends within a two", x.mixes(4, 59, 18), 0);
        DUE.is("6 all of them", x.of(1, 2), 10);
        x.row(1, 3, 4);
        x.body(0);
        x.keep(2, 0);
        DUE.all("6 no row of ints", -12, x.mixes(1, 0, 1), x.mixes(2, 0, 1), x.mixes(1, -1, 18));
        DUE.all("6 bad shelf", BAD, x.mixes(6, 0, 1), x.mixes(-1, 0, 1));
        DUE.all("6 bad bn", BAD, x.mixes(0, 0, 0), x.mixes(0, 0, 9), x.mixes(0, 0, 10), x.mixes(0, 0, 19),
            x.mixes(0, 0, 21), x.mixes(0, 0, -1), x.mixes(2, 0, 0), x.mixes(0, 0, HIGH), x.mixes(0, 0, LOW));
    }

    private static void won() {
        NineCarts x = new NineCarts();
        x.village(1, 20);
        x.village(1, 21);
        x.village(1, 22);
        DUE.all("9 more takes it", 1, x.won(0, 20), x.won(1, 32), x.won(2, 98));
        DUE.all("9 more takes it", 2, x.won(0, 2), x.won(1, 23), x.won(2, 89));
        DUE.all("9 not noticed", 0, x.won(0, 10), x.won(0, 1), x.won(0, 11), x.won(1, 0), x.won(1, 11));
        DUE.is("9 as many", x.won(0, 22), 1);
        DUE.is("9 as many", x.won(1, 22), 2);
        DUE.is("9 as many", x.won(2, 22), 0);
        x.mend(0, 2, 0);
        DUE.is("9 none each", x.won(0, 0), 1);
        DUE.all("9 bad", BAD, x.won(3, 0), x.won(-1, 0), x.won(0, 100), x.won(0, -1), x.won(HIGH, 0), x.won(0, LOW));
        Due.tell(x, "1");
        DUE.is("9 by the law, noticed or not", x.won(1, 0), 1);
    }

    private static void score() {
        NineCarts x = small();
        DUE.is("10", x.score(2, 11), 2);
        DUE.is("10", x.score(11, 2), -2);
        DUE.is("10", x.score(20, 2), -2);
        DUE.is("10 not all used up", x.score(1, 0), 5);
        DUE.is("10 like", x.score(11, 11), 0);
        DUE.is("10 both", x.score(0, 11), -8);
        DUE.all("10 void", VOID, x.score(3, 0), x.score(0, 3), x.score(100, 0), x.score(0, 100), x.score(-1, 0),
            x.score(0, -1), x.score(LOW, HIGH), x.score(21, 0), x.score(0, 12));
        DUE.is("10 no villages", new NineCarts().score(0, 0), 0);
        DUE.is("10 no villages", new NineCarts().score(0, 1), VOID);
        x.mend(1, 1, 9);
        DUE.is("10 by the worths of now", x.score(2, 11), 6);
    }

    private static void againstAMix() {
        NineCarts x = mixed();
        DUE.is("11 20 of 12 is 5 of 3", x.mean(0), 5);
        DUE.is("11", x.mean(1), 3);
        DUE.all("11 bad", Due.MIN, x.mean(2), x.mean(-1), x.mean(HIGH));
        DUE.is("12 of 0", x.best(0), 2);
        DUE.is("12 of 1", x.best(1), 2);
        DUE.all("12 bad", BAD, x.best(2), x.best(-1), x.best(LOW));
        line(x, 0, -1, 2, 1);
        line(x, 0, 2, 2, 1);
        line(x, 0, 1, 3, 4);
        line(x, 0, 0, -17, 4);
        line(x, 0, 3, 9, 2);
        line(x, 1, -1, 4, 3);
        DUE.all("13 bad", Due.MIN, x.line(2, 0, 0), x.line(-1, 0, 0), x.line(0, -2, 0), x.line(0, 10, 0),
            x.line(0, 0, 2), x.line(0, 0, -1), x.line(0, LOW, 0), x.line(0, HIGH, 1));
        DUE.is("14 nothing to hear", x.spy(0, 0), 0);
        DUE.is("14 nothing to hear", x.spy(0, 1), 1);
        x.mend(0, 0, 3);
        for (int v = 0; v < 2; v++) {
            DUE.is("14 20 less 18, of 4", x.spy(v, 0), 1);
            DUE.is("14", x.spy(v, 1), 2);
        }
        DUE.all("14 bad", Due.MIN, x.spy(2, 0), x.spy(-1, 0), x.spy(0, 2), x.spy(0, -1), x.spy(HIGH, 0));
        broke(x, 0, 5, 3);
        broke(x, 6, -31, 24);
        broke(x, 12, -17, 4);
        DUE.all("15 bad", Due.MIN, x.broke(-1, 0), x.broke(13, 0), x.broke(0, 2), x.broke(0, -1), x.broke(LOW, 1));
    }

    private static void line(NineCarts x, int baker, int n, int above, int below) {
        DUE.is("13 above", x.line(baker, n, 0), above);
        DUE.is("13 below", x.line(baker, n, 1), below);
    }

    private static void broke(NineCarts x, int c, int above, int below) {
        DUE.is("15 above", x.broke(c, 0), above);
        DUE.is("15 below", x.broke(c, 1), below);
    }

    /** Without a MIX it is against a PARTING of nothing. */
    private static void againstNothing() {
        NineCarts x = small();
        DUE.is("11 nothing against nothing", x.mean(0), 0);
        DUE.is("11 0 by 1", x.mean(1), 1);
        DUE.is("12 one loaf to each", x.best(0), 11);
        line(x, 0, -1, 8, 1);
        line(x, 0, 1, 5, 1);
        line(x, 1, 1, 5, 1);
        line(x, 1, 0, 0, 1);
        x.mix(1, 11, 2);
        DUE.is("11 nothing against 11", x.mean(0), -8);
        broke(x, 5, -8, 1);
        DUE.is("14 a spy without need", x.spy(1, 0), 0);
        DUE.is("12 of like ones the least", even(3, 1, 0).best(0), 1);
    }

    private static void byAllPartings() {
        NineCarts x = small();
        DUE.is("16 02", x.beaten(0, 2), 0);
        DUE.is("16 11", x.beaten(0, 11), 1);
        DUE.is("16 20", x.beaten(1, 20), 2);
        DUE.is("16 not all used up", x.beaten(0, 0), 3);
        DUE.all("16 bad", BAD, x.beaten(2, 0), x.beaten(-1, 0), x.beaten(0, 3), x.beaten(1, 100), x.beaten(0, -1),
            x.beaten(0, LOW));
        DUE.all("17 it", 2, x.safest(0, 0), x.safest(1, 0));
        DUE.all("17 by none", 0, x.safest(0, 1), x.safest(1, 1));
        DUE.all("17 bad", BAD, x.safest(2, 0), x.safest(-1, 1), x.safest(0, 2), x.safest(0, -1), x.safest(HIGH, 0));
        DUE.all("18 none", NOT, x.ring(0), x.ring(1), x.ring(2));
        DUE.all("18 bad", BAD, x.ring(3), x.ring(-1), x.ring(LOW));
        DUE.all("19 02 and 02", 2, x.rest(0), x.rest(1));
        DUE.is("19 score", x.rest(2), 0);
        DUE.all("19 void", VOID, x.rest(3), x.rest(-1), x.rest(HIGH));
        NineCarts turned = new NineCarts();
        turned.village(5, 2);
        turned.village(3, 2);
        turned.mend(0, 0, 2);
        turned.mend(1, 0, 2);
        DUE.all("19 20 and 20 are not the first", 20, turned.rest(0), turned.rest(1));
        DUE.is("19 20 against 20", turned.rest(2), 0);
        DUE.is("17 20 is not the first", turned.safest(1, 0), 20);
        turned.mend(0, 0, 4);
        turned.mend(1, 0, 1);
        DUE.is("19 22 has both for sure", turned.rest(0), 22);
        DUE.is("19 the first of like ones", turned.rest(1), 1);
        DUE.is("19 both", turned.rest(2), 8);
        NineCarts rings = even(3, 3, 3);
        DUE.is("18 012 beats 201", rings.ring(0), 12);
        DUE.is("18 201 beats 120", rings.ring(1), 201);
        DUE.is("18 120 beats 012", rings.ring(2), 120);
        NineCarts own = even(3, 3, 1);
        DUE.is("18 all are baker 0's", own.ring(1), 201);
        // with 201 and 120 against 1 loaf: none of 3 loaves has more than 2 of 3 for sure
        DUE.is("19 score with more loaves", own.rest(2), 2);
    }

    /** A ring is of three unlike ones, even where one beats itself. */
    private static void ringOfUnlike() {
        NineCarts x = even(2, 1, 1);
        Due.tell(x, "1");
        DUE.is("18 two are too few", x.ring(0), NOT);
        NineCarts three = even(2, 2, 2);
        Due.tell(three, "1");
        DUE.is("18 02", three.ring(0), 2);
        DUE.is("18 11", three.ring(1), 11);
        DUE.is("18 20", three.ring(2), 20);
    }

    private static void stateOfAll() {
        NineCarts none = new NineCarts();
        allState(none);
        DUE.is("16 bad ahead of state", none.beaten(0, 1), BAD);
        DUE.is("17 bad ahead of state", none.safest(0, 2), BAD);
        DUE.is("18 bad ahead of state", none.ring(3), BAD);
        DUE.is("19 bad ahead of state", none.rest(3), VOID);
        DUE.is("21 bad ahead of state", none.most(2), BAD);
        none.mend(0, 0, 0);
        allState(none);
        none.mend(1, 0, 0);
        DUE.all("none each", 0, none.beaten(0, 0), none.safest(1, 0), none.safest(1, 1), none.rest(0), none.rest(1),
            none.rest(2), none.most(0), none.most(1));
        DUE.is("18 none each", none.ring(0), NOT);
        allState(even(5, 7, 6));
        allState(even(5, 6, 7));
        DUE.is("16 210 each", even(5, 6, 6).beaten(0, 60000), 185);
        DUE.is("17 220 each", even(4, 9, 9).of(1, 3), 220);
    }

    private static void allState(NineCarts x) {
        DUE.all("state", STATE, x.beaten(0, 0), x.beaten(1, 0), x.safest(0, 0), x.safest(1, 1), x.ring(0), x.rest(0),
            x.rest(2), x.most(0), x.most(1));
    }

    private static void sure() {
        NineCarts x = small();
        DUE.all("20", 0, x.sure(2), x.sure(11), x.sure(20), x.sure(0));
        DUE.all("20 bad", BAD, x.sure(3), x.sure(-1), x.sure(100), x.sure(21), x.sure(HIGH), x.sure(LOW));
        DUE.is("21 of like ones the least", x.most(0), 2);
        DUE.is("21 none is sure", x.most(1), 0);
        DUE.all("21 bad", BAD, x.most(2), x.most(-1), x.most(HIGH));
        DUE.is("22 none", x.fewest(0), 0);
        DUE.is("22 03", x.fewest(1), 3);
        DUE.is("22 33", x.fewest(2), 6);
        DUE.is("22 more than villages", x.fewest(3), NOT);
        DUE.all("22 bad", BAD, x.fewest(6), x.fewest(-1), x.fewest(LOW));
        DUE.is("22 nothing is changed by asking", x.of(0, 0), 2);
        x.mend(0, 0, 3);
        DUE.is("20 03", x.sure(3), 1);
        DUE.all("20 any other has one, too", 1, x.sure(12), x.sure(21), x.sure(30));
        DUE.all("20 two of three may be taken", 0, x.sure(2), x.sure(11));
        DUE.is("21 03", x.most(0), 3);
        DUE.is("21 03", x.most(1), 1);
        NineCarts ties = new NineCarts();
        for (int v = 0; v < 3; v++) ties.village(1, 0);
        ties.mend(1, 0, 1);
        ties.mend(0, 0, 2);
        DUE.is("20 like loaves to baker 0", ties.sure(11), 2);
        DUE.is("20 002: 100 or 010", ties.sure(2), 2);
        DUE.is("22", ties.fewest(3), 3);
        DUE.is("22 not for ever", ties.fewest(4), NOT);
        DUE.is("20 without villages", new NineCarts().sure(0), 0);
        DUE.is("22 without villages", new NineCarts().fewest(0), 0);
        DUE.is("22 without villages", new NineCarts().fewest(1), NOT);
        NineCarts less = small();
        Due.tell(less, "b=2?0;1");
        DUE.is("20 more loaves than need be taken", less.sure(0), 1);
        Due.tell(less, "b=1?0;1");
        DUE.is("20 not all of baker 1's used up", less.sure(2), 0);
    }

    /** One VILLAGE and up to 9 LOAVES each: the last of each row counts, too. */
    private static void nine() {
        DUE.is("21 as the first thing asked", even(1, 9, 8).most(1), 1);
        NineCarts x = even(1, 9, 8);
        DUE.is("22 9 against 8", x.fewest(1), 9);
        DUE.is("20 9 against 8", x.sure(9), 1);
        DUE.is("20 8 against 8", x.sure(8), 0);
        DUE.is("19 9 against 8", x.rest(2), 1);
        x.mix(1, 8, 1);
        DUE.is("12 9 against 8", x.best(0), 9);
        DUE.is("23 9 against 8", x.year(0, 1), 9);
        DUE.is("24 0 against 8, then 9", x.years(1), 0);
        x.mend(1, 0, 9);
        DUE.is("22 9 against 9", x.fewest(1), NOT);
        DUE.is("20 9 against 9", x.sure(9), 0);
        DUE.is("19 9 against 9", x.rest(2), 0);
        x.mix(1, 9, 1);
        line(x, 0, 9, 1, 2);
        line(x, 0, 8, -1, 2);
        DUE.is("14 9 against 8, and none against 9 is as good", x.spy(0, 0), 0);
        DUE.is("3 the least worth", x.mend(0, 1, 1), 1);
        x.mend(1, 0, 0);
        x.mend(0, 0, 0);
        x.mend(0, 2, 9);
        DUE.is("22 not noticed below 9", x.fewest(1), 9);
        NineCarts two = even(2, 9, 9);
        two.mix(1, 90, 1);
        two.mix(1, 0, 1);
        // 90 is tied by 90 and beaten by 01 to 09 on the other side: 0; nothing is beaten twice by 11
        line(two, 0, -1, 1, 1);
        DUE.is("14 not worth a spy", two.spy(0, 0), 0);
        NineCarts nines = new NineCarts();
        nines.village(1, 0);
        nines.village(1, 2);
        nines.mend(0, 0, 9);
        nines.mend(1, 0, 9);
        nines.mix(1, 90, 1);
        nines.mix(1, 9, 1);
        // 90 has 1 against 90, 09 has 1 against 09, neither has more than 0 against the other
        line(nines, 0, -1, 1, 2);
        for (int v = 0; v < 2; v++) {
            DUE.is("14 a spy sees 9", nines.spy(v, 0), 1);
            DUE.is("14 a spy sees 9", nines.spy(v, 1), 2);
        }
    }

    /** Where fewer loaves are better, it tells who must send all and who need not. */
    private static void fewerIsBetter() {
        NineCarts x = even(1, 3, 2);
        Due.tell(x, "b-a+2");
        DUE.is("19 all are sent", x.rest(0), 3);
        DUE.is("19 all are sent", x.rest(1), 2);
        DUE.is("19 3 against 2", x.rest(2), 1);
        DUE.is("16 3 against 2", x.beaten(0, 3), 0);
        DUE.is("20 3 against 0", x.sure(3), 0);
        DUE.is("12 none is as good as one", x.best(0), 0);
        Due.tell(x, "a-b");
        x.mix(1, 2, 1);
        DUE.is("14 a spy needs no more", x.spy(0, 0), 0);
        Due.tell(x, "a=1");
        DUE.is("12 not all are sent", x.best(0), 1);
        line(x, 0, -1, 1, 1);
        DUE.is("14 nor with a spy", x.spy(0, 0), 0);
    }

    private static void years() {
        NineCarts x = mixed();
        DUE.is("23 first told", x.year(0, 0), 2);
        DUE.is("23 first told", x.year(1, 0), 11);
        DUE.is("23 best against 11", x.year(0, 1), 2);
        DUE.is("23 best against 02", x.year(1, 1), 2);
        DUE.is("23 last", x.year(1, 30), 2);
        DUE.all("23 bad", BAD, x.year(2, 0), x.year(-1, 0), x.year(0, 31), x.year(0, -1), x.year(0, HIGH));
        DUE.all("24 2, then 0 each year", 2, x.years(0), x.years(1), x.years(30));
        DUE.all("24 void", VOID, x.years(31), x.years(-1), x.years(LOW));
        NineCarts none = small();
        DUE.is("23 nothing at first", none.year(0, 0), 0);
        DUE.is("23 then against nothing", none.year(1, 1), 11);
        DUE.is("24 like", none.years(9), 0);
        NineCarts most = new NineCarts();
        most.village(9, 0);
        // like loaves to BAKER 0, so they send 0 0, 0 1, 1 1, 1 2, 2 2, 2 3, ..
        for (int y = 0; y <= 9; y++) {
            DUE.is("23 half a loaf more each year", most.year(0, y), y / 2);
            DUE.is("23 and BAKER 1 ahead", most.year(1, y), (y + 1) / 2);
            DUE.is("24 by turns", most.years(y), y % 2 == 0 ? 9 : 0);
        }
    }

    private static void image() {
        NineCarts x = mixed();
        DUE.is("26 none", x.back(), STATE);
        DUE.is("25", x.image(), 4);
        x.mix(0, 0, 0);
        x.mix(1, 0, 9);
        DUE.is("26", x.back(), 4);
        DUE.is("26 as it was", x.mean(0), 5);
        DUE.is("26 weights", x.of(1, 2), 4);
        x.mix(0, 0, 1);
        DUE.is("26 again", x.back(), 4);
        DUE.is("26 again", x.of(0, 1), 2);
        x.mix(0, 0, 0);
        x.mix(0, 20, 9);
        x.mix(0, 20, 9);
        DUE.is("26 partings and weights", x.back(), 4);
        DUE.is("26 weights as they were", x.of(0, 2), 3);
        DUE.is("26 partings as they were", x.mean(0), 5);
        DUE.is("26 partings as they were", x.year(0, 0), 2);
        x.mix(0, 0, 0);
        DUE.is("25 another", x.image(), 2);
        x.mix(0, 20, 1);
        x.mend(0, 0, 7);
        DUE.is("26 another", x.back(), 2);
        DUE.is("26 loaves stay", x.of(0, 0), 7);
        DUE.is("26 empty", x.of(0, 1), 0);
        DUE.is("25 empty", new NineCarts().image(), 0);
    }

    private static void undone() {
        NineCarts x = new NineCarts();
        x.village(2, 30);
        DUE.is("27 a village is no change", x.undo(), STATE);
        x.mend(0, 0, 1);
        x.mend(0, 1, 7);
        x.mend(0, 2, 8);
        DUE.is("28 nothing to do again", x.redo(), STATE);
        DUE.is("27", x.undo(), 2);
        DUE.is("27 want", x.of(0, 11), 3);
        DUE.is("27", x.undo(), 1);
        DUE.is("27 worth", x.of(0, 10), 2);
        DUE.is("28", x.redo(), 1);
        DUE.is("28 worth", x.of(0, 10), 7);
        DUE.is("28 want not yet", x.of(0, 11), 3);
        DUE.is("38 may be undone", x.count(2), 2);
        DUE.is("27", x.undo(), 1);
        DUE.is("27", x.undo(), 0);
        DUE.is("27 loaves", x.of(0, 0), 6);
        DUE.is("27 none", x.undo(), STATE);
        DUE.is("28", x.redo(), 2);
        DUE.is("3 another comes behind", x.mend(1, 0, 4), 6);
        DUE.is("28 none, as another came", x.redo(), STATE);
        DUE.is("27", x.undo(), 1);
        DUE.is("3 bad is no other", x.mend(5, 0, 4), BAD);
        DUE.is("28", x.redo(), 0);
    }

    private static void undoneAtMost() {
        NineCarts x = new NineCarts();
        int[] states = new int[46];
        for (int i = 0; i < 45; i++) {
            states[i] = 10 * x.of(0, 0) + x.of(1, 0);
            x.mend(i % 2, 0, (i / 2 * 3 + 1) % 10);
        }
        states[45] = 10 * x.of(0, 0) + x.of(1, 0);
        DUE.is("27 40 are kept", x.count(2), 40);
        for (int i = 39; i >= 0; i--) {
            DUE.is("27", x.undo(), i);
            DUE.is("27 as then", 10 * x.of(0, 0) + x.of(1, 0), states[5 + i]);
        }
        DUE.is("27 none", x.undo(), STATE);
        for (int i = 39; i >= 0; i--) {
            DUE.is("28", x.redo(), i);
            DUE.is("28 as then", 10 * x.of(0, 0) + x.of(1, 0), states[45 - i]);
        }
        DUE.is("28 none", x.redo(), STATE);
    }

    /** The oldest goes with all that it was. */
    private static void undoneUnlike() {
        NineCarts x = even(2, 6, 6);
        x.mend(0, 0, 5);
        x.mend(1, 1, 4);
        x.mend(0, 2, 3);
        x.mend(1, 0, 2);
        for (int i = 0; i < 38; i++) x.mend(i % 2, 1 + i / 2 % 2, 9 - i / 4 % 2);
        DUE.is("27 40 are kept", x.count(2), 40);
        for (int i = 0; i < 40; i++) x.undo();
        DUE.is("27 those ahead of the 40 stay", x.of(0, 0), 5);
        DUE.is("27 those ahead of the 40 stay", x.of(1, 10), 4);
        DUE.is("27", x.of(0, 11), 0);
        DUE.is("27", x.of(1, 0), 6);
        for (int i = 0; i < 40; i++) x.redo();
        DUE.is("28", x.of(1, 0), 2);
        DUE.is("28", x.of(0, 10), 8);
        DUE.is("28", x.of(1, 10), 8);
        DUE.is("28", x.of(0, 11), 9);
        DUE.is("28", x.of(1, 11), 9);
    }

    private static void undoneScores() {
        NineCarts x = small();
        DUE.is("27 ahead", x.score(2, 11), 2);
        x.mend(1, 1, 9);
        x.mend(1, 2, 3);
        DUE.is("27 mended", x.score(2, 11), -3);
        x.undo();
        DUE.is("27 want undone", x.score(2, 11), 6);
        x.undo();
        DUE.is("27 worth undone", x.score(2, 11), 2);
        x.redo();
        DUE.is("28 worth again", x.score(2, 11), 6);
    }

    private static void bodies() {
        NineCarts x = new NineCarts();
        DUE.all("29 bad", BAD, x.body(8), x.body(-1), x.body(HIGH), x.body(LOW));
        for (int i = 0; i < 50; i++) DUE.is("29", x.body(i % 8), i);
        DUE.is("29 full", x.body(0), FULL);
        DUE.is("29 bad ahead of full", x.body(8), BAD);
        DUE.is("38 bodies", x.count(3), 50);
        DUE.is("30 parts wraps", x.act(8, 0, HIGH), LOW + 7);
        DUE.is("30 sends wraps", x.act(8, 1, LOW / 2), LOW / 2 * 2 + 16);
    }

    private static void acts() {
        NineCarts x = new NineCarts();
        for (int kind = 0; kind < 8; kind++) x.body(kind);
        // parts, sends, wins, learns of 5 by the body of each KIND, whose number is the KIND's
        long[] due = {
            5, 10, 5, 9,
            9, 18, 4, 18,
            7, -14, 7, -17,
            8, -18, 18, -24,
            12, 24, 1, 22,
            13, 26, -10, 38,
            22, 44, 3, 37,
            23, 51, 2, 45,
        };
        for (int body = 0; body < 8; body++) {
            for (int act = 0; act < 4; act++) DUE.is("30 " + body + " " + act, x.act(body, act, 5), due[body * 4 + act]);
        }
        traces(x, 0, 3, 2, 10, 1, 11);
        traces(x, 1, 3, 2, 10, 20, 1, 11);
        traces(x, 2, 1, 30, 10, 1);
        traces(x, 3, 1, 41, 30, 10, 1);
        traces(x, 3, 3, 2, 41, 30, 10, 1, 40, 11);
        traces(x, 4, 3, 50, 2, 10, 20, 1, 11);
        traces(x, 5, 2, 60, 11, 20, 1);
        traces(x, 5, 3, 61, 50, 2, 10, 20, 1, 60, 11, 20, 1);
        traces(x, 6, 1, 10, 70, 1);
        traces(x, 7, 3, 2, 80, 10, 81, 70, 1, 11, 11);
        DUE.all("30 no such", 0, x.act(8, 0, 5), x.act(-1, 0, 5), x.act(0, 4, 5), x.act(0, -1, 5), x.act(HIGH, LOW, 5));
        DUE.is("30 no trace then", x.count(4), 0);
        DUE.is("31 no trace then", x.trace(0), BAD);
    }

    private static void traces(NineCarts x, int body, int act, int... bodies) {
        x.act(body, act, 5);
        DUE.is("38 ran", x.count(4), bodies.length);
        for (int i = 0; i < bodies.length; i++) DUE.is("31 " + body + " " + act, x.trace(i), bodies[i]);
        DUE.all("31 bad", BAD, x.trace(bodies.length), x.trace(-1), x.trace(24), x.trace(HIGH), x.trace(LOW));
    }

    private static void shelves() {
        NineCarts x = new NineCarts();
        x.body(5);
        DUE.is("32 body", x.keep(0, 0), 1);
        DUE.is("32 nothing", x.keep(1, -1), 1);
        DUE.all("32 bad", BAD, x.keep(6, 0), x.keep(-1, 0), x.keep(0, 1), x.keep(0, -2), x.keep(0, HIGH));
        int[] due = {5, 5, -12, -12, 5, 5, -12, -12};
        for (int kind = 0; kind < 8; kind++) DUE.is("37 LEARN as " + kind, x.taken(0, kind), due[kind]);
        DUE.all("37 bad", BAD, x.taken(6, 0), x.taken(-1, 0), x.taken(0, 8), x.taken(0, -1), x.taken(1, 8));
        DUE.is("37 nothing", x.taken(1, 0), -11);
        DUE.is("33 row", x.row(1, 0, 60), 1);
        DUE.is("37 a row", x.taken(1, 0), -12);
        DUE.all("33 bad", BAD, x.row(6, 0, 1), x.row(-1, 0, 1), x.row(0, 5, 1), x.row(0, -1, 1), x.row(0, 0, 61),
            x.row(0, 5, -1), x.row(6, 0, -1), x.row(0, 0, HIGH));
        DUE.all("33 below 0", -14, x.row(0, 0, -1), x.row(0, 4, LOW));
        DUE.is("33 what is refused changes nothing", x.taken(0, 5), 5);
        DUE.is("33 of none", x.row(0, 2, 0), 1);
        DUE.is("34 of none", x.put(0, 0, 1), -13);
        DUE.is("35 of none", x.element(0, 0), Due.MIN);
        x.put(1, 59, 9);
        x.row(1, 0, 60);
        DUE.is("33 0 at first", x.element(1, 59), 0);
        DUE.is("32 the shelf is empty then", x.keep(1, -1), 1);
        DUE.is("35 nothing", x.element(1, 0), Due.MIN);
    }

    private static void elements() {
        NineCarts x = new NineCarts();
        long[][] due = {
            {0, 1, -1, 44, -128, 0, -1, 0},
            {0, 1, -1, 300, -32640, 0, -1, 0},
            {0, 1, -1, 300, 32896, 0, -1, LOW},
            {0, 1, -1, 300, 32896, 1L << 32, Long.MAX_VALUE, LOW},
            {0, 1, 1, 1, 1, 1, 1, 1},
        };
        long[] values = {0, 1, -1, 300, 32896, 1L << 32, Long.MAX_VALUE, LOW};
        for (int sort = 0; sort < 5; sort++) {
            x.row(sort, sort, values.length);
            for (int i = 0; i < values.length; i++) {
                DUE.is("34", x.put(sort, i, values[i]), 1);
                DUE.is("35 sort " + sort, x.element(sort, i), due[sort][i]);
            }
        }
        DUE.all("34 no place", -13, x.put(0, 8, 1), x.put(0, -1, 1), x.put(4, 60, 1), x.put(0, HIGH, 1));
        DUE.all("35 no place", Due.MIN, x.element(0, 8), x.element(0, -1), x.element(4, LOW), x.element(3, HIGH));
        DUE.all("34 bad", BAD, x.put(6, 0, 1), x.put(-1, 0, 1));
        DUE.all("35 bad", Due.MIN, x.element(6, 0), x.element(-1, 0));
        DUE.all("34 nothing", -11, x.put(5, 0, 1), x.put(5, -1, 1));
        DUE.all("35 nothing", Due.MIN, x.element(5, 0), x.element(5, 99));
        x.body(0);
        x.keep(5, 0);
        DUE.all("34 a body", -12, x.put(5, 0, 1), x.put(5, -1, 1));
        DUE.all("35 a body", Due.MIN, x.element(5, 0), x.element(5, 99));
        x.row(5, 3, 60);
        for (int i = -14; i < 0; i++) {
            x.put(5, 60 + i, i);
            DUE.is("35 an element like a refusal", x.element(5, 60 + i), i);
        }
    }

    private static void shift() {
        NineCarts x = new NineCarts();
        x.row(0, 2, 6);
        x.row(1, 2, 4);
        for (int i = 0; i < 6; i++) x.put(0, i, i + 1);
        DUE.is("36", x.shift(0, 1, 1, 0, 3), 3);
        rowIs(x, 1, 2, 3, 4, 0);
        DUE.is("36 to the same, upward", x.shift(0, 0, 0, 2, 4), 4);
        rowIs(x, 0, 1, 2, 1, 2, 3, 4);
        DUE.is("36 to the same, downward", x.shift(0, 1, 0, 0, 5), 5);
        rowIs(x, 0, 2, 1, 2, 3, 4, 4);
        DUE.is("36 none, at the end", x.shift(0, 6, 1, 4, 0), 0);
        DUE.all("36 no place", -13, x.shift(0, 7, 1, 0, 0), x.shift(0, 0, 1, 5, 0), x.shift(0, -1, 1, 0, 1),
            x.shift(0, 0, 1, -1, 1), x.shift(0, 0, 1, 0, -1), x.shift(0, 4, 1, 0, 3), x.shift(0, 0, 1, 2, 3),
            x.shift(0, HIGH, 1, 0, HIGH), x.shift(0, 1, 1, 1, HIGH), x.shift(0, 0, 1, LOW, LOW));
        rowIs(x, 1, 2, 3, 4, 0);
        DUE.all("36 bad", BAD, x.shift(6, 0, 0, 0, 0), x.shift(0, 0, -1, 0, 0), x.shift(2, 0, 6, 0, 0));
        x.body(0);
        x.keep(2, 0);
        x.row(4, 3, 4);
        DUE.all("36 nothing", -11, x.shift(3, 0, 0, 0, 1), x.shift(0, 0, 3, 0, 1), x.shift(2, 0, 3, 0, 1),
            x.shift(3, 0, 2, 0, -1));
        x.row(5, 0, 4);
        DUE.all("36 a body is no row of bytes", -12, x.shift(2, 0, 5, 0, 1), x.shift(5, 0, 2, 0, 1));
        DUE.all("36 kinds", -12, x.shift(2, 0, 0, 0, 1), x.shift(0, 0, 2, 0, 1), x.shift(2, 0, 2, 0, 0),
            x.shift(0, 0, 4, 0, 1), x.shift(0, 0, 4, 0, -1));
    }

    private static void rowIs(NineCarts x, int shelf, int... elements) {
        for (int i = 0; i < elements.length; i++) DUE.is("36 element " + i, x.element(shelf, i), elements[i]);
    }

    private static void count() {
        NineCarts x = mixed();
        x.feed(97);
        x.body(1);
        x.act(0, 0, 0);
        DUE.is("38 villages", x.count(0), 2);
        DUE.is("38 bytes", x.count(1), 1);
        DUE.is("38 changes", x.count(2), 2);
        DUE.is("38 bodies", x.count(3), 1);
        DUE.is("38 ran", x.count(4), 2);
        DUE.all("38 bad", BAD, x.count(5), x.count(-1), x.count(HIGH), x.count(LOW));
    }

    public static void main(String[] args) {
        newObject();
        village();
        mend();
        mendToTheSame();
        of();
        mix();
        mixStands();
        mixes();
        won();
        score();
        againstAMix();
        againstNothing();
        byAllPartings();
        ringOfUnlike();
        stateOfAll();
        sure();
        nine();
        fewerIsBetter();
        years();
        image();
        undone();
        undoneAtMost();
        undoneUnlike();
        undoneScores();
        bodies();
        acts();
        shelves();
        elements();
        shift();
        count();
        DUE.end("PromisesTest");
    }
}
