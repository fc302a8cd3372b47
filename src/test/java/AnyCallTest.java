import java.lang.reflect.InvocationTargetException;
import java.lang.reflect.Method;
import java.lang.reflect.Modifier;
import java.util.ArrayList;
import java.util.List;
import java.util.Random;

/** No call throws or fails to end, for any arguments in any state, up to the 512th; and none changes its answer from run to run. */
public final class AnyCallTest {
    private static final int CALLS = 512, RUNS = 3000;
    private static final long[] ODD = {
        Long.MIN_VALUE, Integer.MIN_VALUE, Integer.MIN_VALUE + 1, -100, -60, -2, -1, 0, 1, 2, 3, 4, 5, 6, 7, 8, 9, 10, 11,
        12, 13, 18, 29, 30, 31, 39, 40, 41, 49, 50, 51, 59, 60, 61, 99, 100, 119, 120, 121, 255, 256, 300, 512, 99999,
        100000, Integer.MAX_VALUE / 2, Integer.MAX_VALUE - 1, Integer.MAX_VALUE, Long.MAX_VALUE};

    private static Object[] arguments(Method method, Random chance) {
        Class<?>[] types = method.getParameterTypes();
        Object[] args = new Object[types.length];
        for (int i = 0; i < types.length; i++) {
            int how = chance.nextInt(8);
            long value = how < 5 ? chance.nextInt(10) : how < 7 ? ODD[chance.nextInt(ODD.length)] : chance.nextLong();
            if (method.getName().equals("feed") && how < 6) value = "ab1!-(()+*|&<?;wtv".charAt(chance.nextInt(18));
            args[i] = types[i] == long.class ? (Object) value : (Object) (int) value;
        }
        return args;
    }

    private static long sumOfRun(List<Method> face, int seed) throws IllegalAccessException {
        Random chance = new Random(seed);
        NineCarts x = new NineCarts();
        long sum = 0;
        for (int i = 0; i < CALLS; i++) {
            Method method = face.get(chance.nextInt(face.size()));
            Object[] args = arguments(method, chance);
            try {
                sum = sum * 31 + ((Number) method.invoke(x, args)).longValue();
            } catch (InvocationTargetException e) {
                System.out.println("seed " + seed + ": " + method.getName() + java.util.Arrays.toString(args) + " threw "
                    + e.getCause());
                System.exit(1);
            }
        }
        return sum;
    }

    public static void main(String[] args) throws IllegalAccessException {
        List<Method> face = new ArrayList<>();
        for (Method method : NineCarts.class.getDeclaredMethods()) {
            if (Modifier.isPublic(method.getModifiers())) face.add(method);
        }
        face.sort(java.util.Comparator.comparing(Method::getName));
        Due due = new Due();
        due.is("methods of the face", face.size(), 37);
        for (int seed = 0; seed < RUNS; seed++) due.is("the same again", sumOfRun(face, seed), sumOfRun(face, seed));
        due.end("AnyCallTest");
    }
}
