/** Boundaries of BODIES, ACTS, SHELVES and ROWS: promises 29 to 38. */
public final class EdgeShelfTest {
    private static final int BAD = -1, FULL = -3, NOTHING = -11, OTHER = -12, PLACE = -13, SIZE = -14;
    private static final int LOW = Integer.MIN_VALUE, HIGH = Integer.MAX_VALUE;
    private static final Due DUE = new Due();

    private static void bodies() {
        NineCarts x = new NineCarts();
        for (int i = 0; i < 50; i++) {
            DUE.is("38 ahead", x.count(3), i);
            DUE.is("32 not there yet", x.keep(0, i), BAD);
            DUE.is("30 not there yet", x.act(i, 0, 5), 0);
            DUE.is("29 number", x.body((i + 3) % 8), i);
            DUE.is("32 there", x.keep(0, i), 1);
            DUE.is("37 of its KIND", x.taken(0, 0), (i + 3) % 8);
        }
        DUE.all("29 fifty are FULL", FULL, x.body(0), x.body(7));
        DUE.all("29 BAD ahead of FULL", BAD, x.body(-1), x.body(8));
        DUE.is("38 fifty", x.count(3), 50);
        DUE.all("32 no fifty-first", BAD, x.keep(0, 50), x.keep(0, 51));
        Look.everywhere(DUE, "29 no KIND", BAD, y -> y.body(-1), y -> y.body(8), y -> y.body(LOW), y -> y.body(HIGH));
        Look.refused(DUE, "29 FULL", FULL, Look::full, y -> y.body(0), y -> y.body(7));
    }

    /** x is an int that wraps, in each ACT of each KIND. */
    private static void wraps() {
        int[] some = {0, 1, -1, 5, HIGH, HIGH - 1, HIGH - 49, LOW, LOW + 1, 1 << 30, (1 << 30) - 1, -(1 << 30), -(1 << 30) - 1, HIGH / 3 + 1};
        NineCarts x = new NineCarts();
        for (int n = 0; n < 50; n++) x.body(n % 8);
        for (int n = 0; n < 50; n++) {
            for (int value : some) {
                for (int act = 0; act < 4; act++) DUE.is("30 " + n + " does " + act + " with " + value, x.act(n, act, value), due(n, act, value));
            }
        }
    }

    /** The ACTS of a BODY worked out by formulas, in longs that are cut to ints. */
    private static int due(int n, int act, int x) {
        int kind = n % 8;
        switch (act) {
            case 0: return parts(kind, n, x);
            case 1: return (int) sends(kind, n, x);
            case 2: return (int) wins(kind, n, x);
            default:
                int learned = (int) (sends(kind, n, x) - wins(kind, n, 1));
                return kind == 4 ? learned ^ 5 : kind == 5 ? (learned ^ 5) + 1 : learned;
        }
    }

    private static int parts(int kind, int n, long x) {
        switch (kind) {
            case 1: case 4: case 5: return (int) (x + n + 3);
            case 6: return (int) ((x + n) * 2);
            case 7: return (int) ((x + n) * 2 - 1);
            default: return (int) (x + n);
        }
    }

    private static long sends(int kind, int n, long x) {
        switch (kind) {
            case 2: return -2 * (x + n);
            case 3: return -2 * (x + 1 + n);
            case 7: return 2L * parts(kind, n, x) + (2 ^ n);
            default: return 2L * parts(kind, n, x);
        }
    }

    private static long wins(int kind, int n, int x) {
        switch (kind) {
            case 3: return 3L * (x ^ n);
            case 5: return (long) (x ^ n) - parts(kind, n, 2);
            default: return x ^ n;
        }
    }

    /** No such BODY or ACT: 0, and no TRACE then, where there was one; nothing else changes. */
    private static void noAct() {
        int[][] none = {{-1, 0}, {8, 0}, {HIGH, 3}, {LOW, 0}, {0, -1}, {0, 4}, {7, LOW}, {7, HIGH}, {-1, -1}, {8, 4}};
        for (int[] one : none) {
            NineCarts x = new NineCarts();
            for (int kind = 0; kind < 8; kind++) x.body(kind);
            DUE.is("30", x.act(7, 3, 5), 45);
            DUE.is("38 ran", x.count(4), 8);
            DUE.is("31 last", x.trace(7), 11);
            DUE.is("30 none: " + one[0] + " does " + one[1], x.act(one[0], one[1], 5), 0);
            DUE.is("38 none ran", x.count(4), 0);
            DUE.all("31 no TRACE", BAD, x.trace(0), x.trace(7), x.trace(-1), x.trace(23), x.trace(24));
            DUE.is("38 BODIES stay", x.count(3), 8);
            DUE.is("30 and act again", x.act(7, 3, 5), 45);
        }
        DUE.is("30 without a BODY", new NineCarts().act(0, 0, 5), 0);
        Look.refused(DUE, "30 no ACT ever", 0, NineCarts::new, x -> x.act(0, 0, 1), x -> x.act(-1, 3, 1), x -> x.act(0, 4, 9));
    }

    /** Ten bodies are the most that run in an ACT: each that ran is kept, none behind it is there, and the latest act's alone. */
    private static void traces() {
        NineCarts x = new NineCarts();
        for (int kind = 0; kind < 8; kind++) x.body(kind);
        int most = 0;
        for (int body = 0; body < 8; body++) {
            for (int act = 0; act < 4; act++) {
                x.act(5, 3, 1);
                x.act(body, act, 5);
                int ran = x.count(4);
                most = Math.max(most, ran);
                for (int i = 0; i < ran; i++) DUE.is("31 there", x.trace(i) > 0 ? 1 : 0, 1);
                DUE.all("31 behind it", BAD, x.trace(ran), x.trace(ran + 1), x.trace(23), x.trace(24), x.trace(25));
            }
        }
        DUE.is("38 the most that ran", most, 10);
        Look.everywhere(DUE, "31 no i", BAD, y -> y.trace(-1), y -> y.trace(24), y -> y.trace(23), y -> y.trace(LOW), y -> y.trace(HIGH));
        DUE.is("38 one ran", oneRan().count(4), 1);
        DUE.is("31 the first", oneRan().trace(0), 1);
        Look.refused(DUE, "31 behind the first", BAD, EdgeShelfTest::oneRan, y -> y.trace(1), y -> y.trace(-1));
    }

    private static NineCarts oneRan() {
        NineCarts x = new NineCarts();
        x.body(0);
        x.act(0, 0, 1);
        return x;
    }

    private static void keeps() {
        for (int shelf = -2; shelf <= 7; shelf++) {
            boolean isOne = shelf >= 0 && shelf <= 5;
            NineCarts x = new NineCarts();
            x.body(4);
            DUE.is("32 SHELF " + shelf, x.keep(shelf, 0), isOne ? 1 : BAD);
            DUE.is("37 SHELF " + shelf, x.taken(shelf, 0), isOne ? 4 : BAD);
            for (int other = 0; other <= 5; other++) if (other != shelf) DUE.is("32 that one alone", x.taken(other, 0), NOTHING);
            DUE.is("32 nothing on " + shelf, x.keep(shelf, -1), isOne ? 1 : BAD);
            DUE.is("37 nothing on " + shelf, x.taken(shelf, 0), isOne ? NOTHING : BAD);
            DUE.is("32 nothing again on " + shelf, x.keep(shelf, -1), isOne ? 1 : BAD);
        }
        Look.everywhere(DUE, "32 no SHELF", BAD, x -> x.keep(-1, -1), x -> x.keep(6, -1), x -> x.keep(6, 0), x -> x.keep(LOW, 0), x -> x.keep(HIGH, -1));
        Look.everywhere(DUE, "32 no BODY", BAD, x -> x.keep(0, -2), x -> x.keep(5, 50), x -> x.keep(1, LOW), x -> x.keep(2, HIGH));
        Look.refused(DUE, "32 one behind the last", BAD, Look::busy, x -> x.keep(0, 3), x -> x.keep(1, 3), x -> x.keep(5, 3));
        Look.refused(DUE, "32 without BODIES", BAD, NineCarts::new, x -> x.keep(0, 0));
    }

    /** What a SHELF holds goes when another thing comes: nothing, a BODY, a ROW, each behind each. */
    private static void heldByTurns() {
        for (int was = 0; was < 3; was++) {
            for (int now = 0; now < 3; now++) {
                NineCarts x = new NineCarts();
                x.body(6);
                hold(x, was);
                hold(x, now);
                DUE.is("37 " + now + " behind " + was, x.taken(2, 0), now == 0 ? NOTHING : now == 1 ? 6 : OTHER);
                DUE.is("34 " + now + " behind " + was, x.put(2, 59, 1), now == 0 ? NOTHING : now == 1 ? OTHER : 1);
                DUE.is("35 " + now + " behind " + was, x.element(2, 58), now == 2 ? 0 : Due.MIN);
                DUE.is("6 " + now + " behind " + was, x.mixes(2, 58, 1), now == 0 ? 0 : now == 1 ? OTHER : 1);
            }
        }
    }

    private static void hold(NineCarts x, int thing) {
        if (thing < 2) x.keep(2, thing - 1);
        if (thing == 2) {
            x.row(2, 2, 60);
            for (int i = 0; i < 60; i++) x.put(2, i, 3);
            x.row(2, 2, 60);
            x.put(2, 59, 1);
        }
    }

    /** 0 to 60 elements of each sort, 0 at first; each place there is, and none beside them. */
    private static void rows() {
        for (int sort = 0; sort <= 4; sort++) {
            for (int n : new int[] {0, 1, 2, 59, 60}) {
                NineCarts x = new NineCarts();
                x.row(3, sort, 60);
                for (int i = 0; i < 60; i++) x.put(3, i, 1);
                DUE.is("33 " + n, x.row(3, sort, n), 1);
                for (int i = 0; i < n; i++) DUE.is("33 0 at first", x.element(3, i), 0);
                if (n > 0) DUE.all("34 first and last", 1, x.put(3, 0, 1), x.put(3, n - 1, 1), x.element(3, 0), x.element(3, n - 1));
                DUE.all("34 beside it", PLACE, x.put(3, -1, 1), x.put(3, n, 1), x.put(3, 60, 1), x.put(3, LOW, 1), x.put(3, HIGH, 1));
                DUE.all("35 beside it", Due.MIN, x.element(3, -1), x.element(3, n), x.element(3, 60), x.element(3, LOW), x.element(3, HIGH));
            }
        }
        Look.everywhere(DUE, "33 no SHELF", BAD, x -> x.row(-1, 0, 1), x -> x.row(6, 0, 1), x -> x.row(LOW, 0, 1), x -> x.row(HIGH, 0, 1));
        Look.everywhere(DUE, "33 no sort", BAD, x -> x.row(0, -1, 1), x -> x.row(0, 5, 1), x -> x.row(0, LOW, 1), x -> x.row(5, HIGH, 1));
        Look.everywhere(DUE, "33 too many", BAD, x -> x.row(0, 0, 61), x -> x.row(1, 4, HIGH));
        Look.everywhere(DUE, "33 below 0", SIZE, x -> x.row(0, 0, -1), x -> x.row(5, 4, -61), x -> x.row(1, 2, LOW));
        Look.everywhere(DUE, "33 BAD ahead of -14", BAD, x -> x.row(-1, 0, -1), x -> x.row(6, 2, -1), x -> x.row(0, -1, -1), x -> x.row(0, 5, LOW));
    }

    /** What is put in keeps its lowest bits; of a boolean, whether it is not 0. */
    private static void lowestBits() {
        long[] values = {0, 1, -1, 127, 128, -128, -129, 255, 256, 257, 32767, 32768, -32768, -32769, 65535, 65536, HIGH, 1L + HIGH, LOW,
            LOW - 1L, 0xffffffffL, 1L << 32, (1L << 32) + 1, 1L << 63, Long.MAX_VALUE, -11, -13};
        NineCarts x = new NineCarts();
        for (int sort = 0; sort <= 4; sort++) x.row(sort, sort, 60);
        for (long v : values) {
            DUE.all("34 " + v, 1, x.put(0, 7, v), x.put(1, 7, v), x.put(2, 7, v), x.put(3, 7, v), x.put(4, 7, v));
            DUE.is("35 a byte of " + v, x.element(0, 7), Math.floorMod(v + 128, 256) - 128);
            DUE.is("35 a short of " + v, x.element(1, 7), Math.floorMod(v + 32768, 65536) - 32768);
            DUE.is("35 an int of " + v, x.element(2, 7), v << 32 >> 32);
            DUE.is("35 a long of " + v, x.element(3, 7), v);
            DUE.is("35 a boolean of " + v, x.element(4, 7), v == 0 ? 0 : 1);
        }
        for (int sort = 0; sort <= 4; sort++) DUE.all("35 beside it", 0, x.element(sort, 6), x.element(sort, 8));
    }

    private static void putRefused() {
        Look.everywhere(DUE, "34 no SHELF", BAD, x -> x.put(-1, 0, 1), x -> x.put(6, 0, 1), x -> x.put(LOW, -1, 1), x -> x.put(HIGH, 99, 1));
        Look.refused(DUE, "34 nothing there", NOTHING, Look::busy, x -> x.put(5, 0, 1), x -> x.put(5, -1, 1), x -> x.put(5, 60, 1));
        Look.refused(DUE, "34 a BODY", OTHER, Look::busy, x -> x.put(0, 0, 1), x -> x.put(0, -1, 1), x -> x.put(0, HIGH, 1));
        Look.refused(DUE, "34 no place", PLACE, Look::busy, x -> x.put(1, -1, 1), x -> x.put(1, 6, 1), x -> x.put(2, 3, 1), x -> x.put(3, 2, 1),
            x -> x.put(4, 1, 1), x -> x.put(4, LOW, 1));
        Look.refused(DUE, "34 nothing there", NOTHING, NineCarts::new, x -> x.put(0, 0, 1), x -> x.put(5, -1, 1));
        Look.refused(DUE, "34 no place", PLACE, Look::full, x -> x.put(0, 60, 1), x -> x.put(5, -1, 1), x -> x.put(3, HIGH, 1));
        Look.everywhere(DUE, "35 no SHELF", Due.MIN, x -> x.element(-1, 0), x -> x.element(6, 0), x -> x.element(LOW, 0), x -> x.element(HIGH, 0));
        Look.refused(DUE, "35 nothing, a BODY, no place", Due.MIN, Look::busy, x -> x.element(5, 0), x -> x.element(0, 0), x -> x.element(1, 6),
            x -> x.element(2, 3), x -> x.element(3, -1), x -> x.element(4, 1));
    }

    /** All there is of two ROWS of six and four: n elements from i to j, against how a copy of them would stand. */
    private static void shifts() {
        for (int i = -1; i <= 7; i++) {
            for (int j = -1; j <= 7; j++) {
                for (int n = -1; n <= 7; n++) {
                    shift(0, i, 0, j, n);
                    shift(0, i, 1, j, n);
                    shift(1, i, 0, j, n);
                }
            }
        }
    }

    private static void shift(int shelf, int i, int other, int j, int n) {
        NineCarts x = new NineCarts();
        int[] sizes = {6, 4};
        long[][] due = {new long[6], new long[4]};
        for (int row = 0; row < 2; row++) {
            x.row(row, 3, sizes[row]);
            for (int at = 0; at < sizes[row]; at++) {
                due[row][at] = 100 * row + 10 * at + 1;
                x.put(row, at, due[row][at]);
            }
        }
        boolean may = i >= 0 && j >= 0 && n >= 0 && i + n <= sizes[shelf] && j + n <= sizes[other];
        long[] ahead = due[shelf].clone();
        for (int at = 0; may && at < n; at++) due[other][j + at] = ahead[i + at];
        String what = "36 " + n + " of " + shelf + " from " + i + " to " + other + " at " + j;
        DUE.is(what, x.shift(shelf, i, other, j, n), may ? n : PLACE);
        for (int row = 0; row < 2; row++) {
            for (int at = 0; at < sizes[row]; at++) DUE.is(what + ": " + row + ", " + at, x.element(row, at), due[row][at]);
        }
    }

    private static void shiftRefused() {
        Look.everywhere(DUE, "36 no SHELF", BAD, x -> x.shift(-1, 0, 0, 0, 0), x -> x.shift(6, 0, 0, 0, 0), x -> x.shift(0, 0, -1, 0, 0),
            x -> x.shift(0, 0, 6, 0, 0), x -> x.shift(LOW, 0, HIGH, 0, 0), x -> x.shift(5, 0, 6, -1, -1), x -> x.shift(6, 0, 5, 0, -1));
        Look.refused(DUE, "36 nothing there, either", NOTHING, Look::busy, x -> x.shift(5, 0, 1, 0, 0), x -> x.shift(1, 0, 5, 0, 0),
            x -> x.shift(5, 0, 5, 0, 0), x -> x.shift(5, 0, 0, 0, 0), x -> x.shift(0, 0, 5, 0, 0), x -> x.shift(5, -1, 1, 0, -1), x -> x.shift(1, 7, 5, 0, 1));
        Look.refused(DUE, "36 no ROWS, or of unlike sorts", OTHER, Look::busy, x -> x.shift(0, 0, 1, 0, 0), x -> x.shift(1, 0, 0, 0, 0),
            x -> x.shift(0, 0, 0, 0, 0), x -> x.shift(1, 0, 2, 0, 0), x -> x.shift(2, 0, 3, 0, 1), x -> x.shift(3, 0, 4, 0, 1), x -> x.shift(4, 0, 2, 0, 1),
            x -> x.shift(1, -1, 3, 0, 1), x -> x.shift(1, 0, 4, 9, 1), x -> x.shift(0, 0, 4, 0, -1));
        Look.refused(DUE, "36 no place", PLACE, Look::busy, x -> x.shift(1, 0, 1, 0, -1), x -> x.shift(1, -1, 1, 0, 1), x -> x.shift(1, 0, 1, -1, 1),
            x -> x.shift(1, 6, 1, 0, 1), x -> x.shift(1, 0, 1, 6, 1), x -> x.shift(1, 7, 1, 0, 0), x -> x.shift(1, 0, 1, 7, 0), x -> x.shift(1, 0, 1, 0, 7),
            x -> x.shift(1, 1, 1, 0, HIGH), x -> x.shift(1, HIGH, 1, 0, 1), x -> x.shift(1, 0, 1, HIGH, HIGH), x -> x.shift(1, LOW, 1, LOW, LOW),
            x -> x.shift(1, 0, 1, 0, LOW));
        Look.refused(DUE, "36 of nothing", 0, Look::busy, x -> x.shift(1, 0, 1, 0, 0), x -> x.shift(1, 6, 1, 6, 0), x -> x.shift(4, 1, 4, 0, 0));
        for (int sort = 0; sort <= 4; sort++) {
            for (int other = 0; other <= 4; other++) {
                NineCarts x = new NineCarts();
                x.row(0, sort, 60);
                x.row(5, other, 60);
                x.put(0, 59, 1);
                DUE.is("36 " + sort + " to " + other, x.shift(0, 0, 5, 0, 60), sort == other ? 60 : OTHER);
                DUE.is("36 " + sort + " to " + other, x.element(5, 59), sort == other ? 1 : 0);
            }
        }
        NineCarts none = new NineCarts();
        none.row(0, 2, 0);
        DUE.is("36 of a ROW of none", none.shift(0, 0, 0, 0, 0), 0);
        DUE.all("36 of a ROW of none", PLACE, none.shift(0, 0, 0, 0, 1), none.shift(0, 1, 0, 0, 0), none.shift(0, 0, 0, 1, 0));
    }

    /** By KIND and what it is taken for: BAKER over all, EVEN over BEST over LEARN, FEW over CHANCE, TOLD over FOOL. */
    private static void takens() {
        String[] under = {"0", "10", "20", "320", "410", "5410", "60", "760"};
        for (int kind = 0; kind <= 7; kind++) {
            NineCarts x = new NineCarts();
            x.body(kind);
            x.keep(5, 0);
            for (int k = -2; k <= 9; k++) {
                int due = k < 0 || k > 7 ? BAD : under[kind].indexOf('0' + k) >= 0 ? kind : OTHER;
                DUE.is("37 " + kind + " for " + k, x.taken(5, k), due);
            }
        }
        Look.everywhere(DUE, "37 no SHELF", BAD, x -> x.taken(-1, 0), x -> x.taken(6, 0), x -> x.taken(LOW, 0), x -> x.taken(HIGH, 7));
        Look.everywhere(DUE, "37 no KIND", BAD, x -> x.taken(0, -1), x -> x.taken(5, 8), x -> x.taken(1, LOW), x -> x.taken(2, HIGH));
        Look.refused(DUE, "37 nothing there", NOTHING, Look::busy, x -> x.taken(5, 0), x -> x.taken(5, 7));
        Look.refused(DUE, "37 a ROW", OTHER, Look::busy, x -> x.taken(1, 0), x -> x.taken(4, 7));
        Look.refused(DUE, "37 another KIND", OTHER, Look::busy, x -> x.taken(0, 2), x -> x.taken(0, 6), x -> x.taken(0, 7));
    }

    private static void counts() {
        Look.everywhere(DUE, "38", BAD, x -> x.count(-1), x -> x.count(5), x -> x.count(LOW), x -> x.count(HIGH));
        int[] empty = {0, 0, 0, 0, 0};
        int[] busy = {3, 3, 2, 3, 10};
        for (int what = 0; what < 5; what++) {
            DUE.is("38 nothing told", new NineCarts().count(what), empty[what]);
            DUE.is("38 some told", Look.busy().count(what), busy[what]);
        }
        DUE.is("38 five", Look.full().count(0), 5);
        DUE.is("38 fifty", Look.full().count(3), 50);
        DUE.is("38 120", Look.fullTape().count(1), 120);
    }

    public static void main(String[] args) {
        bodies();
        wraps();
        noAct();
        traces();
        keeps();
        heldByTurns();
        rows();
        lowestBits();
        putRefused();
        shifts();
        shiftRefused();
        takens();
        counts();
        DUE.end("EdgeShelfTest");
    }
}
