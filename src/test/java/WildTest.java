import java.lang.reflect.Method;
import java.util.Arrays;
import java.util.Comparator;
import java.util.Random;

/**
 * Any call with any arguments in any state: none throws, the same calls answer the same, and a call that only asks
 * changes nothing that a later one tells.
 */
public final class WildTest {
    private static final int RUNS = 300;
    private static final int CALLS = 512;
    private static final int[] EDGES = {Integer.MIN_VALUE, Integer.MIN_VALUE + 1, -1000, -2, -1, 0, 1, 2, 3, 4, 5, 6, 7, 8, 9, 10, 23, 24,
        31, 32, 59, 60, 61, 99, 100, 800, 2000000000, 2000000001, Integer.MAX_VALUE - 1, Integer.MAX_VALUE};
    private static final Checks checks = new Checks();

    public static void main(String[] args) throws Exception {
        Method[] methods = Arrays.stream(StarchGarrison.class.getDeclaredMethods())
                .filter(method -> java.lang.reflect.Modifier.isPublic(method.getModifiers()))
                .sorted(Comparator.comparing(Method::getName))
                .toArray(Method[]::new);
        checks.due("methods of the face", methods.length, 72);
        for (int seed = 0; seed < RUNS && checks.wrong() == 0; seed++) {
            long once = run(methods, seed, false);
            checks.due("run " + seed + " again", run(methods, seed, false), once);
            checks.due("run " + seed + " with more asked in between", run(methods, seed, true), once);
        }
        checks.finish("WildTest");
    }

    private static long run(Method[] methods, int seed, boolean asksMore) throws Exception {
        Random random = new Random(seed);
        Random more = new Random(seed + 1);
        StarchGarrison x = new StarchGarrison();
        long sum = 0;
        for (int call = 0; call < CALLS; call++) {
            if (call == 40 || random.nextInt(100) == 0) {
                Checks.put(x, Model.random(random).text(random));
                sum = 31 * sum + x.garrison();
            }
            Method method = methods[random.nextInt(methods.length)];
            sum = 31 * sum + answer(x, method, random);
            if (asksMore) {
                Method question = methods[more.nextInt(methods.length)];
                if (onlyAsks(question.getName())) {
                    answer(x, question, more);
                }
            }
        }
        return sum;
    }

    private static boolean onlyAsks(String name) {
        return !Arrays.asList("feed", "end", "garrison", "starch", "iron", "undo", "anew", "rate", "image", "back", "row", "write", "paste")
                .contains(name);
    }

    private static long answer(StarchGarrison x, Method method, Random random) {
        Class<?>[] types = method.getParameterTypes();
        Object[] values = new Object[types.length];
        for (int i = 0; i < types.length; i++) {
            int value = random.nextInt(4) == 0 ? EDGES[random.nextInt(EDGES.length)] : random.nextInt(6);
            if (types[i] == int.class) {
                values[i] = value;
            } else {
                values[i] = random.nextBoolean() ? (long) value : random.nextLong();
            }
        }
        try {
            return ((Number) method.invoke(x, values)).longValue();
        } catch (ReflectiveOperationException thrown) {
            checks.due(method.getName() + Arrays.toString(values) + " threw " + thrown.getCause(), 1, 0);
            return 0;
        }
    }
}
