import java.math.BigInteger;
import java.util.ArrayList;
import java.util.List;

/**
 * The document told a second time, as slowly and plainly as can be: every set of PARTINGS is
 * written out, every SCORE is worked out anew, THE LAW is worked out from its text. Nothing of
 * NineCarts is used here, so that the two can be held against each other.
 */
final class PlainModel {
    static final int BAD = -1, NOT = -2, FULL = -3, STATE = -5, VOID = -2000000000;

    /** A told PARTING: digits[v] loaves go to VILLAGE v; there may be fewer digits than VILLAGES by now. */
    record Told(int[] digits, int weight) { }

    record Change(int number, int what, int was, int becomes) { }

    private final List<int[]> villages = new ArrayList<>();
    private final int[] loaves = {6, 6};
    private List<List<Told>> mixes = List.of(new ArrayList<>(), new ArrayList<>());
    private List<List<Told>> image = null;
    private final List<Integer> tape = new ArrayList<>();
    private PlainLaw law = null;
    private final List<Change> undoable = new ArrayList<>();
    private final List<Change> redoable = new ArrayList<>();

    // ---- villages, loaves, mixes

    int village(int worth, int wt) {
        if (worth < 1 || worth > 9 || wt < 0 || wt / 10 > 9 || wt % 10 > 2) return BAD;
        if (villages.size() == 5) return FULL;
        villages.add(new int[] {worth, wt / 10, wt % 10});
        return villages.size() - 1;
    }

    int mend(int number, int what, int v) {
        boolean baker = what == 0 && (number == 0 || number == 1);
        boolean village = (what == 1 || what == 2) && number >= 0 && number < villages.size();
        if (!baker && !village || v < (what == 1 ? 1 : 0) || v > 9) return BAD;
        int was = what == 0 ? loaves[number] : villages.get(number)[what - 1];
        if (was == v) return was;
        undoable.add(new Change(number, what, was, v));
        if (undoable.size() > 40) undoable.remove(0);
        redoable.clear();
        set(number, what, v);
        return was;
    }

    private void set(int number, int what, int v) {
        if (what == 0) loaves[number] = v;
        else villages.get(number)[what - 1] = v;
    }

    int of(int number, int what) {
        boolean baker = number == 0 || number == 1;
        boolean village = number >= 0 && number < villages.size();
        if (what == 0 && baker) return loaves[number];
        if (what == 1 && baker) return mixes.get(number).size();
        if (what == 2 && baker) return mixes.get(number).stream().mapToInt(Told::weight).sum();
        if (what == 3 && baker) return full(number).size();
        if (what >= 10 && what <= 12 && village) return villages.get(number)[what - 10];
        return BAD;
    }

    int mix(int baker, int parting, int weight) {
        if (baker != 0 && baker != 1 || weight < 0 || weight > 9) return BAD;
        List<Told> mine = mixes.get(baker);
        if (weight == 0) {
            mine.clear();
            return 0;
        }
        int[] digits = digits(baker, parting);
        if (digits == null) return BAD;
        if (mine.size() == 8) return FULL;
        mine.add(new Told(digits, weight));
        return mine.size();
    }

    /** The digits of a PARTING of a BAKER, or null if it is none. */
    private int[] digits(int baker, int parting) {
        for (int[] one : upTo(loaves[baker])) {
            if (number(one) == parting) return one;
        }
        return null;
    }

    private int number(int[] digits) {
        int number = 0;
        for (int v = 0; v < villages.size(); v++) number = number * 10 + (v < digits.length ? digits[v] : 0);
        return number;
    }

    private static int sum(int[] digits) {
        int sum = 0;
        for (int digit : digits) sum += digit;
        return sum;
    }

    /** PARTINGS with no more than n LOAVES, by their numbers. */
    private List<int[]> upTo(int n) {
        List<int[]> all = new ArrayList<>();
        all.add(new int[0]);
        for (int v = 0; v < villages.size(); v++) {
            List<int[]> longer = new ArrayList<>();
            for (int[] head : all) {
                for (int digit = 0; sum(head) + digit <= n; digit++) {
                    int[] with = java.util.Arrays.copyOf(head, v + 1);
                    with[v] = digit;
                    longer.add(with);
                }
            }
            all = longer;
        }
        return all;
    }

    private List<int[]> using(int n) {
        List<int[]> all = upTo(n);
        all.removeIf(one -> sum(one) != n);
        return all;
    }

    private List<int[]> full(int baker) {
        return using(loaves[baker]);
    }

    int feed(int letter) {
        if (letter < 0 || letter > 255) return BAD;
        if (tape.size() == 120) return FULL;
        tape.add(letter);
        return tape.size();
    }

    int law() {
        StringBuilder text = new StringBuilder();
        for (int letter : tape) text.append((char) letter);
        tape.clear();
        PlainLaw read = new PlainLaw(text.toString());
        if (read.fault() >= 0) return -100 - read.fault();
        law = read;
        return 1;
    }

    // ---- one day

    private int holder(int v, int a, int b) {
        int[] village = villages.get(v);
        if (law != null) {
            int value = law.value(a, b, village[0], village[1], v);
            return value > 0 ? 1 : value < 0 ? 2 : 0;
        }
        if (a > b) return a >= village[1] ? 1 : 0;
        if (b > a) return b >= village[1] ? 2 : 0;
        if (a < village[1]) return 0;
        return village[2] == 0 ? 1 : village[2] == 1 ? 2 : 0;
    }

    int won(int village, int ab) {
        if (village < 0 || village >= villages.size() || ab < 0 || ab > 99) return BAD;
        return holder(village, ab / 10, ab % 10);
    }

    private static int digit(int[] digits, int v) {
        return v < digits.length ? digits[v] : 0;
    }

    private int score(int[] a, int[] b) {
        int score = 0;
        for (int v = 0; v < villages.size(); v++) {
            int holder = holder(v, digit(a, v), digit(b, v));
            if (holder == 1) score += villages.get(v)[0];
            if (holder == 2) score -= villages.get(v)[0];
        }
        return score;
    }

    /** How much a BAKER has by its PARTING and the other's. */
    private int has(int baker, int[] own, int[] other) {
        return baker == 0 ? score(own, other) : -score(other, own);
    }

    int score(int parting, int other) {
        int[] a = digits(0, parting);
        int[] b = digits(1, other);
        return a == null || b == null ? VOID : score(a, b);
    }

    // ---- against a mix

    private List<Told> counted(int baker) {
        List<Told> told = mixes.get(baker);
        return told.isEmpty() ? List.of(new Told(new int[0], 1)) : told;
    }

    private static long fraction(BigInteger above, BigInteger below, int part) {
        BigInteger common = above.gcd(below);
        return (part == 0 ? above : below).divide(common).longValueExact();
    }

    private static long weights(List<Told> told) {
        long sum = 0;
        for (Told one : told) sum += one.weight();
        return sum;
    }

    long mean(int part) {
        if (part != 0 && part != 1) return Long.MIN_VALUE;
        long sum = 0;
        for (Told a : counted(0)) {
            for (Told b : counted(1)) sum += (long) a.weight() * b.weight() * score(a.digits(), b.digits());
        }
        long below = weights(counted(0)) * weights(counted(1));
        return fraction(BigInteger.valueOf(sum), BigInteger.valueOf(below), part);
    }

    private long against(int baker, int[] own, List<Told> others) {
        long sum = 0;
        for (Told other : others) sum += (long) other.weight() * has(baker, own, other.digits());
        return sum;
    }

    private int[] bestOf(int baker, int n, List<Told> others) {
        int[] best = null;
        for (int[] own : upTo(n)) {
            if (best == null || against(baker, own, others) > against(baker, best, others)) best = own;
        }
        return best;
    }

    int best(int baker) {
        if (baker != 0 && baker != 1) return BAD;
        return number(bestOf(baker, loaves[baker], counted(1 - baker)));
    }

    long line(int baker, int n, int part) {
        if (baker != 0 && baker != 1 || n < -1 || n > 9 || part != 0 && part != 1) return Long.MIN_VALUE;
        List<Told> others = counted(1 - baker);
        int[] best = bestOf(baker, n == -1 ? loaves[baker] : n, others);
        return fraction(BigInteger.valueOf(against(baker, best, others)), BigInteger.valueOf(weights(others)), part);
    }

    long spy(int village, int part) {
        if (village < 0 || village >= villages.size() || part != 0 && part != 1) return Long.MIN_VALUE;
        List<Told> all = counted(1);
        long more = -against(0, bestOf(0, loaves[0], all), all);
        for (int heard = 0; heard <= 9; heard++) {
            List<Told> such = new ArrayList<>();
            for (Told one : all) {
                if (digit(one.digits(), village) == heard) such.add(one);
            }
            if (!such.isEmpty()) more += against(0, bestOf(0, loaves[0], such), such);
        }
        return fraction(BigInteger.valueOf(more), BigInteger.valueOf(weights(all)), part);
    }

    /** Goes through every set of carts that may break down. */
    long broke(int c, int part) {
        if (c < 0 || c > 12 || part != 0 && part != 1) return Long.MIN_VALUE;
        int carts = villages.size();
        BigInteger above = BigInteger.ZERO;
        for (int broken = 0; broken < 1 << carts; broken++) {
            int down = Integer.bitCount(broken);
            BigInteger chance = BigInteger.valueOf(c).pow(down).multiply(BigInteger.valueOf(12 - c).pow(carts - down));
            long sum = 0;
            for (Told a : counted(0)) {
                int[] arrives = new int[carts];
                for (int v = 0; v < carts; v++) arrives[v] = (broken >> v & 1) != 0 ? 0 : digit(a.digits(), v);
                for (Told b : counted(1)) sum += (long) a.weight() * b.weight() * score(arrives, b.digits());
            }
            above = above.add(chance.multiply(BigInteger.valueOf(sum)));
        }
        BigInteger below = BigInteger.valueOf(12).pow(carts)
            .multiply(BigInteger.valueOf(weights(counted(0)) * weights(counted(1))));
        return fraction(above, below, part);
    }

    // ---- by all partings

    private boolean untold() {
        return full(0).isEmpty() || full(1).isEmpty() || full(0).size() > 300 || full(1).size() > 300;
    }

    private int beatenBy(int baker, int[] own) {
        int count = 0;
        for (int[] other : full(1 - baker)) {
            if (has(baker, own, other) < 0) count++;
        }
        return count;
    }

    int beaten(int baker, int parting) {
        if (baker != 0 && baker != 1) return BAD;
        int[] own = digits(baker, parting);
        if (own == null) return BAD;
        return untold() ? STATE : beatenBy(baker, own);
    }

    int safest(int baker, int what) {
        if (baker != 0 && baker != 1 || what != 0 && what != 1) return BAD;
        if (untold()) return STATE;
        int[] safest = null;
        int fewest = 0;
        for (int[] own : full(baker)) {
            int count = beatenBy(baker, own);
            if (safest != null && count >= fewest) continue;
            safest = own;
            fewest = count;
        }
        return what == 0 ? number(safest) : fewest;
    }

    int ring(int k) {
        if (k < 0 || k > 2) return BAD;
        if (untold()) return STATE;
        List<int[]> all = full(0);
        int count = all.size();
        boolean[][] beats = new boolean[count][count];
        for (int p = 0; p < count; p++) {
            for (int q = 0; q < count; q++) beats[p][q] = score(all.get(p), all.get(q)) > 0;
        }
        for (int p = 0; p < count; p++) {
            for (int q = p + 1; q < count; q++) {
                for (int r = p + 1; r < count; r++) {
                    if (r != q && beats[p][q] && beats[q][r] && beats[r][p]) {
                        return number(all.get(k == 0 ? p : k == 1 ? q : r));
                    }
                }
            }
        }
        return NOT;
    }

    int rest(int what) {
        if (what < 0 || what > 2) return VOID;
        if (untold()) return STATE;
        List<int[]> rows = full(0);
        List<int[]> columns = full(1);
        int[][] scores = new int[rows.size()][columns.size()];
        for (int i = 0; i < rows.size(); i++) {
            for (int j = 0; j < columns.size(); j++) scores[i][j] = score(rows.get(i), columns.get(j));
        }
        for (int i = 0; i < rows.size(); i++) {
            for (int j = 0; j < columns.size(); j++) {
                if (rests(scores, i, j)) {
                    return what == 0 ? number(rows.get(i)) : what == 1 ? number(columns.get(j)) : scores[i][j];
                }
            }
        }
        return NOT;
    }

    private static boolean rests(int[][] scores, int i, int j) {
        for (int[] row : scores) {
            if (row[j] > scores[i][j]) return false;
        }
        for (int other : scores[i]) {
            if (other < scores[i][j]) return false;
        }
        return true;
    }

    private int sureOf(int[] own) {
        int least = villages.size();
        for (int[] other : upTo(loaves[1])) {
            int held = 0;
            for (int v = 0; v < villages.size(); v++) {
                if (holder(v, own[v], other[v]) == 1) held++;
            }
            least = Math.min(least, held);
        }
        return least;
    }

    int sure(int parting) {
        int[] own = digits(0, parting);
        return own == null ? BAD : sureOf(own);
    }

    int most(int what) {
        if (what != 0 && what != 1) return BAD;
        if (untold()) return STATE;
        int[] best = null;
        for (int[] own : full(0)) {
            if (best == null || sureOf(own) > sureOf(best)) best = own;
        }
        return what == 0 ? number(best) : sureOf(best);
    }

    int fewest(int k) {
        if (k < 0 || k > 5) return BAD;
        for (int n = 0; n <= 9; n++) {
            for (int[] own : using(n)) {
                if (sureOf(own) >= k) return n;
            }
        }
        return NOT;
    }

    // ---- years

    private List<List<Told>> sent(int last) {
        List<List<Told>> sent = List.of(new ArrayList<>(), new ArrayList<>());
        for (int baker = 0; baker < 2; baker++) sent.get(baker).add(new Told(counted(baker).get(0).digits(), 1));
        for (int y = 1; y <= last; y++) {
            int[] zero = bestOf(0, loaves[0], sent.get(1));
            int[] one = bestOf(1, loaves[1], sent.get(0));
            sent.get(0).add(new Told(zero, 1));
            sent.get(1).add(new Told(one, 1));
        }
        return sent;
    }

    int year(int baker, int y) {
        if (baker != 0 && baker != 1 || y < 0 || y > 30) return BAD;
        return number(sent(y).get(baker).get(y).digits());
    }

    int years(int y) {
        if (y < 0 || y > 30) return VOID;
        int sum = 0;
        List<List<Told>> sent = sent(y);
        for (int i = 0; i <= y; i++) sum += score(sent.get(0).get(i).digits(), sent.get(1).get(i).digits());
        return sum;
    }

    private int told() {
        return mixes.get(0).size() + mixes.get(1).size();
    }

    private static List<List<Told>> copy(List<List<Told>> of) {
        return List.of(new ArrayList<>(of.get(0)), new ArrayList<>(of.get(1)));
    }

    int image() {
        image = copy(mixes);
        return told();
    }

    int back() {
        if (image == null) return STATE;
        mixes = copy(image);
        return told();
    }

    int undo() {
        if (undoable.isEmpty()) return STATE;
        Change change = undoable.remove(undoable.size() - 1);
        redoable.add(change);
        set(change.number(), change.what(), change.was());
        return undoable.size();
    }

    int redo() {
        if (redoable.isEmpty()) return STATE;
        Change change = redoable.remove(redoable.size() - 1);
        undoable.add(change);
        set(change.number(), change.what(), change.becomes());
        return redoable.size();
    }

    // ---- acts, shelves: by real Java objects, casts and the host's own exceptions

    private final List<PlainBodies.Baker> bodies = new ArrayList<>();
    private List<Integer> trace = new ArrayList<>();
    private final Object[] shelves = new Object[6];

    int body(int kind) {
        if (kind < 0 || kind > 7) return BAD;
        if (bodies.size() == 50) return FULL;
        bodies.add(PlainBodies.make(kind, bodies.size()));
        return bodies.size() - 1;
    }

    int act(int body, int act, int x) {
        trace = new ArrayList<>();
        if (body < 0 || body >= bodies.size() || act < 0 || act > 3) return 0;
        PlainBodies.Baker baker = bodies.get(body);
        baker.trace = trace;
        return act == 0 ? baker.parts(x) : act == 1 ? baker.sends(x) : act == 2 ? baker.wins(x) : baker.learns(x);
    }

    int trace(int i) {
        return i >= 0 && i < 24 && i < trace.size() ? trace.get(i) : BAD;
    }

    int keep(int shelf, int body) {
        if (shelf < 0 || shelf > 5 || body < -1 || body >= bodies.size()) return BAD;
        shelves[shelf] = body == -1 ? null : bodies.get(body);
        return 1;
    }

    int row(int shelf, int sort, int n) {
        if (shelf < 0 || shelf > 5 || sort < 0 || sort > 4 || n > 60) return BAD;
        if (n < 0) return -14;
        Object[] rows = {new byte[n], new short[n], new int[n], new long[n], new boolean[n]};
        shelves[shelf] = rows[sort];
        return 1;
    }

    int put(int shelf, int i, long v) {
        if (shelf < 0 || shelf > 5) return BAD;
        Object row = shelves[shelf];
        if (row == null) return -11;
        try {
            if (row instanceof byte[] bytes) bytes[i] = (byte) v;
            else if (row instanceof short[] shorts) shorts[i] = (short) v;
            else if (row instanceof int[] ints) ints[i] = (int) v;
            else if (row instanceof long[] longs) longs[i] = v;
            else if (row instanceof boolean[] booleans) booleans[i] = v != 0;
            else return -12;
            return 1;
        } catch (ArrayIndexOutOfBoundsException e) {
            return -13;
        }
    }

    long element(int shelf, int i) {
        if (shelf < 0 || shelf > 5) return Long.MIN_VALUE;
        Object row = shelves[shelf];
        if (row == null || row instanceof PlainBodies.Baker) return Long.MIN_VALUE;
        try {
            if (row instanceof boolean[] booleans) return booleans[i] ? 1 : 0;
            return java.lang.reflect.Array.getLong(row, i);
        } catch (ArrayIndexOutOfBoundsException e) {
            return Long.MIN_VALUE;
        }
    }

    int shift(int shelf, int i, int other, int j, int n) {
        if (shelf < 0 || shelf > 5 || other < 0 || other > 5) return BAD;
        if (shelves[shelf] == null || shelves[other] == null) return -11;
        try {
            System.arraycopy(shelves[shelf], i, shelves[other], j, n);
            return n;
        } catch (ArrayStoreException e) {
            return -12;
        } catch (IndexOutOfBoundsException e) {
            return -13;
        }
    }

    int taken(int shelf, int k) {
        if (shelf < 0 || shelf > 5 || k < 0 || k > 7) return BAD;
        Object held = shelves[shelf];
        if (held == null) return -11;
        return PlainBodies.kindClass(k).isInstance(held) ? ((PlainBodies.Baker) held).kind : -12;
    }

    int mixes(int shelf, int i, int bn) {
        boolean asSaid = bn >= 1 && bn <= 8 || bn >= 11 && bn <= 18;
        if (shelf < 0 || shelf > 5 || !asSaid) return BAD;
        if (shelves[shelf] != null && !(shelves[shelf] instanceof int[])) return -12;
        int came = 0;
        try {
            int[] row = (int[]) shelves[shelf];
            for (int k = 0; k < bn % 10; k++) {
                int parting = row[i + 2 * k];
                int weight = row[i + 2 * k + 1];
                if (weight == 0 || mix(bn / 10, parting, weight) < 0) break;
                came++;
            }
        } catch (NullPointerException | ArrayIndexOutOfBoundsException e) {
            return came;
        }
        return came;
    }

    int count(int what) {
        switch (what) {
            case 0: return villages.size();
            case 1: return tape.size();
            case 2: return undoable.size();
            case 3: return bodies.size();
            case 4: return trace.size();
            default: return BAD;
        }
    }
}
