import java.util.ArrayList;
import java.util.Collections;
import java.util.List;
import java.util.Map;
import java.util.Random;
import java.util.stream.IntStream;

/**
 * Each call with each of its edges, all of them against all: so of several refusals at once, too. They are
 * asked of NineCarts and of PlainModel, in states that calls by chance have made.
 */
public final class GridTest {
    private static final int AHEAD = 200, ASKED = 300, TIMES = 6;
    private static final int LOW = Integer.MIN_VALUE, HIGH = Integer.MAX_VALUE;
    private static final int[] PARTINGS = {LOW, -1, 0, 1, 6, 7, 9, 10, 33, 60, 61, 222, 11112, 60000, 99999, 100000, HIGH};
    private static final int[] SHELVES = {-1, 0, 1, 2, 5, 6};
    private static final int[] PLACES = {LOW, -1, 0, 1, 5, 59, 60, HIGH};
    private static final int[] PARTS = {-1, 0, 1, 2};
    private static final int[] BAKERS = {-1, 0, 1, 2};
    private static final int[] VILLAGES = {-1, 0, 1, 3, 4, 5, HIGH};
    private static final int[] YEARS = {LOW, -1, 0, 1, 2, 30, 31, HIGH};

    private static final Map<String, int[][]> EDGES = Map.ofEntries(
        Map.entry("village", new int[][] {{LOW, 0, 1, 9, 10}, {-1, 0, 2, 3, 9, 10, 90, 92, 93, 99, 100, HIGH}}),
        Map.entry("mend", new int[][] {VILLAGES, {-1, 0, 1, 2, 3}, {-1, 0, 1, 6, 9, 10, LOW}}),
        Map.entry("of", new int[][] {VILLAGES, {-1, 0, 1, 2, 3, 4, 9, 10, 11, 12, 13}}),
        Map.entry("mix", new int[][] {BAKERS, PARTINGS, {-1, 0, 1, 9, 10}}),
        Map.entry("mixes", new int[][] {SHELVES, PLACES, {-1, 0, 1, 8, 9, 10, 11, 18, 19, 20, 21, LOW}}),
        Map.entry("feed", new int[][] {{LOW, -1, 0, 40, 45, 97, 255, 256, HIGH}}),
        Map.entry("law", new int[0][]),
        Map.entry("won", new int[][] {VILLAGES, {LOW, -1, 0, 9, 10, 33, 90, 99, 100, HIGH}}),
        Map.entry("score", new int[][] {PARTINGS, PARTINGS}),
        Map.entry("mean", new int[][] {PARTS}),
        Map.entry("best", new int[][] {BAKERS}),
        Map.entry("line", new int[][] {BAKERS, {LOW, -2, -1, 0, 6, 9, 10}, PARTS}),
        Map.entry("spy", new int[][] {VILLAGES, PARTS}),
        Map.entry("broke", new int[][] {{LOW, -1, 0, 1, 11, 12, 13}, PARTS}),
        Map.entry("beaten", new int[][] {BAKERS, PARTINGS}),
        Map.entry("safest", new int[][] {BAKERS, PARTS}),
        Map.entry("ring", new int[][] {{-1, 0, 1, 2, 3}}),
        Map.entry("rest", new int[][] {{-1, 0, 1, 2, 3}}),
        Map.entry("sure", new int[][] {PARTINGS}),
        Map.entry("most", new int[][] {PARTS}),
        Map.entry("fewest", new int[][] {{LOW, -1, 0, 1, 4, 5, 6, HIGH}}),
        Map.entry("year", new int[][] {BAKERS, YEARS}),
        Map.entry("years", new int[][] {YEARS}),
        Map.entry("image", new int[0][]),
        Map.entry("back", new int[0][]),
        Map.entry("undo", new int[0][]),
        Map.entry("redo", new int[0][]),
        Map.entry("body", new int[][] {{LOW, -1, 0, 7, 8, HIGH}}),
        Map.entry("act", new int[][] {{LOW, -1, 0, 1, 49, 50, HIGH}, {LOW, -1, 0, 1, 2, 3, 4}, {LOW, -1, 0, 1 << 30, HIGH}}),
        Map.entry("trace", new int[][] {{LOW, -1, 0, 1, 9, 10, 23, 24, HIGH}}),
        Map.entry("keep", new int[][] {SHELVES, {LOW, -2, -1, 0, 1, 49, 50, HIGH}}),
        Map.entry("row", new int[][] {SHELVES, {-1, 0, 2, 3, 4, 5}, {LOW, -1, 0, 1, 60, 61, HIGH}}),
        Map.entry("put", new int[][] {SHELVES, PLACES, {LOW, -129, -1, 0, 1, 256, 32768, HIGH}}),
        Map.entry("element", new int[][] {SHELVES, PLACES}),
        Map.entry("shift", new int[][] {SHELVES, {-1, 0, 2, 60}, SHELVES, {-1, 0, 1, 59}, {-1, 0, 1, 4}}),
        Map.entry("taken", new int[][] {SHELVES, {-1, 0, 1, 4, 6, 7, 8}}),
        Map.entry("count", new int[][] {{LOW, -1, 0, 1, 2, 3, 4, 5, HIGH}}));

    /** The call with each of its edges against each of the others. */
    private static List<RandomCalls.Call> allOf(String name, int[][] edges) {
        List<List<Object>> rows = List.of(List.of());
        for (int[] some : edges) {
            List<List<Object>> longer = new ArrayList<>();
            for (List<Object> head : rows) {
                for (int one : some) {
                    List<Object> row = new ArrayList<>(head);
                    row.add(name.equals("put") && row.size() == 2 ? (Object) (long) one : (Object) one);
                    longer.add(row);
                }
            }
            rows = longer;
        }
        List<RandomCalls.Call> calls = new ArrayList<>();
        for (List<Object> row : rows) calls.add(new RandomCalls.Call(name, row.toArray()));
        return calls;
    }

    private static List<RandomCalls.Call> all() {
        List<RandomCalls.Call> calls = new ArrayList<>();
        for (String name : new java.util.TreeSet<>(EDGES.keySet())) calls.addAll(allOf(name, EDGES.get(name)));
        // so many that each of the calls without edges comes in each state
        for (int i = 0; i < calls.size() / ASKED; i++) {
            for (String name : new String[] {"law", "image", "back", "undo", "redo"}) calls.add(new RandomCalls.Call(name));
        }
        return calls;
    }

    /** Makes a state by chance, then asks; what it says is empty if all answers were alike. */
    private static String run(int seed, List<RandomCalls.Call> asked) {
        Pair pair = new Pair();
        RandomCalls calls = new RandomCalls(seed, pair.carts, 40, true);
        for (int i = 0; i < AHEAD; i++) {
            if (!pair.alike(calls.next(i))) return pair.told();
        }
        for (RandomCalls.Call call : asked) {
            if (!pair.alike(call)) return pair.told();
        }
        return "";
    }

    public static void main(String[] args) {
        int wrong = Pair.faceIs(EDGES.keySet()) ? 0 : 1;
        for (int time = 0; time < TIMES; time++) {
            List<RandomCalls.Call> calls = all();
            Collections.shuffle(calls, new Random(time));
            int seed = 300000 + 1000 * time;
            int runs = (calls.size() + ASKED - 1) / ASKED;
            wrong += IntStream.range(0, runs).parallel().map(i -> {
                String said = run(seed + i, calls.subList(i * ASKED, Math.min(calls.size(), (i + 1) * ASKED)));
                if (said.isEmpty()) return 0;
                System.out.println("seed " + (seed + i) + ": " + said);
                return 1;
            }).sum();
        }
        System.out.println(wrong == 0 ? "GridTest: the model says the same" : wrong + " wrong");
        if (wrong != 0) System.exit(1);
    }
}
