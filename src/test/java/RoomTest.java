import com.sun.management.ThreadMXBean;
import java.lang.management.ManagementFactory;

/** All rows are made in the constructor: no call makes anything, and an object is small. */
public final class RoomTest {
    private static final Due DUE = new Due();
    private static final ThreadMXBean BEAN = (ThreadMXBean) ManagementFactory.getThreadMXBean();

    private static long allocated() {
        return BEAN.getThreadAllocatedBytes(Thread.currentThread().getId());
    }

    private static long callAll(NineCarts x, int i) {
        int baker = i % 2;
        long sum = x.village(1 + i % 9, 10 * (i % 10) + i % 3) + x.mend(baker, 0, 6) + x.mend(0, 1, 1 + i % 9)
            + x.mend(1, 2, i % 4) + x.of(0, 3) + x.mix(baker, 11112, 3) + x.mix(1 - baker, 30021, 3) + x.won(0, 12)
            + x.score(11112, 60000) + x.mean(0) + x.best(baker) + x.line(baker, 9, 1) + x.spy(1, 0) + x.broke(7, 0)
            + x.beaten(baker, 222) + x.safest(baker, 0) + x.ring(0) + x.rest(0) + x.sure(222) + x.most(0) + x.fewest(4)
            + x.year(baker, 30) + x.years(30) + x.image() + x.back() + x.undo() + x.redo();
        sum += x.body(i % 8) + x.act(i % 8, 3, i) + x.trace(0) + x.keep(0, 0) + x.taken(0, 0) + x.row(1, i % 5, 60)
            + x.row(2, 2, 60) + x.put(1, 3, i) + x.put(2, 1, 3) + x.element(1, 3) + x.shift(1, 0, 1, 1, 20)
            + x.mixes(2, 0, 18) + x.count(i % 5);
        for (int k = 0; k < 3; k++) sum += x.feed("a-b".charAt(k));
        return sum + x.law() + x.mix(baker, 0, 0);
    }

    public static void main(String[] args) {
        NineCarts first = new NineCarts();
        for (int i = 0; i < 12; i++) callAll(first, i);
        allocated();
        long before = allocated();
        NineCarts x = new NineCarts();
        long made = allocated() - before;
        before = allocated();
        for (int i = 0; i < 12; i++) callAll(x, i);
        long madeByCalls = allocated() - before;
        DUE.is("bytes that calls make", madeByCalls, 0);
        DUE.is("an object below 100000 bytes: " + made, made < 100000 ? 0 : made, 0);
        DUE.end("RoomTest");
    }
}
