import java.util.HashMap;
import java.util.Map;
import java.util.concurrent.atomic.AtomicInteger;
import java.util.stream.IntStream;

/** Holds NineCarts against PlainModel over runs of 512 calls. */
public final class ModelTest {
    private static final int CALLS = 512;
    private static final Map<String, AtomicInteger> ANSWERED = counters();

    private static Map<String, AtomicInteger> counters() {
        Map<String, AtomicInteger> counters = new HashMap<>();
        for (String name : Pair.face()) counters.put(name, new AtomicInteger());
        return counters;
    }

    /** Runs calls on both; what it says is empty if all answers were alike. */
    private static String run(int seed, int wildness, boolean dear) {
        Pair pair = new Pair();
        RandomCalls calls = new RandomCalls(seed, pair.carts, wildness, dear);
        for (int i = 0; i < CALLS; i++) {
            RandomCalls.Call call = calls.next(i);
            if (!pair.alike(call)) return "seed " + seed + ": " + pair.told();
            if (pair.latest() >= 0) ANSWERED.get(call.name()).incrementAndGet();
        }
        return "";
    }

    private static int runAll(int from, int to, int wildness, boolean dear) {
        return IntStream.range(from, to).parallel().map(seed -> {
            String said = run(seed, wildness, dear);
            if (said.isEmpty()) return 0;
            System.out.println(said);
            return 1;
        }).sum();
    }

    public static void main(String[] args) {
        int times = args.length > 0 ? Integer.parseInt(args[0]) : 1;
        int base = args.length > 1 ? Integer.parseInt(args[1]) : 0;
        int wrong = runAll(base, base + 300 * times, 40, false)
            + runAll(base + 100000, base + 100000 + 60 * times, 40, true)
            + runAll(base + 200000, base + 200000 + 60 * times, 4, false);
        for (Map.Entry<String, AtomicInteger> one : ANSWERED.entrySet()) {
            if (one.getValue().get() < 20) {
                System.out.println(one.getKey() + " was hardly ever answered: " + one.getValue());
                wrong++;
            }
        }
        System.out.println(wrong == 0 ? "the model says the same" : wrong + " wrong");
        if (wrong != 0) System.exit(1);
    }
}
