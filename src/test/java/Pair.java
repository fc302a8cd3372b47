import java.lang.reflect.InvocationTargetException;
import java.lang.reflect.Method;
import java.lang.reflect.Modifier;
import java.util.HashMap;
import java.util.Map;
import java.util.Set;

/** A NineCarts and a PlainModel that are asked the same calls. */
final class Pair {
    private static final Map<String, Method> FACE = methods(NineCarts.class);
    private static final Map<String, Method> MODEL = methods(PlainModel.class);

    final NineCarts carts = new NineCarts();
    private final PlainModel model = new PlainModel();
    private final StringBuilder told = new StringBuilder();
    private long latest;
    private int asked;

    private static Map<String, Method> methods(Class<?> of) {
        Map<String, Method> methods = new HashMap<>();
        for (Method method : of.getDeclaredMethods()) {
            // a private score(int[], int[]) stands beside score(int, int)
            boolean plain = !Modifier.isPrivate(method.getModifiers());
            for (Class<?> type : method.getParameterTypes()) plain &= type == int.class || type == long.class;
            if (plain) methods.put(method.getName(), method);
        }
        return methods;
    }

    static Set<String> face() {
        return FACE.keySet();
    }

    static boolean faceIs(Set<String> names) {
        if (names.equals(FACE.keySet())) return true;
        System.out.println("the face is " + FACE.keySet() + ", not " + names);
        return false;
    }

    private static long answer(Method method, Object of, RandomCalls.Call call) {
        try {
            return ((Number) method.invoke(of, call.args())).longValue();
        } catch (InvocationTargetException e) {
            throw new IllegalStateException(call.text() + " threw", e.getCause());
        } catch (IllegalAccessException e) {
            throw new IllegalStateException(e);
        }
    }

    /** Whether both answer the call alike. */
    boolean alike(RandomCalls.Call call) {
        latest = answer(FACE.get(call.name()), carts, call);
        long due = answer(MODEL.get(call.name()), model, call);
        told.append(call.text()).append(' ').append(latest).append('\n');
        asked++;
        if (latest == due) return true;
        told.append("call ").append(asked).append(", due is ").append(due).append('\n');
        return false;
    }

    /** What the class answered the latest call. */
    long latest() {
        return latest;
    }

    /** All calls with their answers. */
    String told() {
        return told.toString();
    }
}
