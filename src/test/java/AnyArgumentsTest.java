import java.lang.reflect.Method;
import java.lang.reflect.Modifier;
import java.util.Arrays;
import java.util.Comparator;
import java.util.Random;

/** No call throws, whatever its arguments; and the same calls always answer the same. */
final class AnyArgumentsTest {
    private static final Checks CHECKS = new Checks();
    private static final int[] EDGES = {Integer.MIN_VALUE, -2, -1, 0, 1, 2, 9, 10, 11, 12, 100, 300, 999, 1000, 1439,
        1440, 100000, 100001, Integer.MAX_VALUE - 1, Integer.MAX_VALUE};

    public static void main(String[] args) throws ReflectiveOperationException {
        Method[] methods = Arrays.stream(MilkTrain.class.getDeclaredMethods())
            .filter(m -> Modifier.isPublic(m.getModifiers())).sorted(Comparator.comparing(Method::getName))
            .toArray(Method[]::new);
        CHECKS.due("public methods", methods.length, 29);
        for (int round = 0; round < 300; round++) {
            long first = run(methods, round);
            CHECKS.due("run " + round + " once more", run(methods, round), first);
        }
        CHECKS.end();
    }

    private static long run(Method[] methods, int seed) throws ReflectiveOperationException {
        Random random = new Random(seed);
        MilkTrain x = new MilkTrain();
        if (seed % 2 == 0) {
            Texts.put(x, Texts.THREE);
            x.timetable();
        }
        long hash = 0;
        for (int i = 0; i < 500; i++) {
            Method method = methods[random.nextInt(methods.length)];
            hash = hash * 31 + method.invoke(x, arguments(random, method)).hashCode();
        }
        return hash;
    }

    private static Object[] arguments(Random random, Method method) {
        Class<?>[] types = method.getParameterTypes();
        Object[] arguments = new Object[types.length];
        for (int i = 0; i < types.length; i++) {
            if (types[i] == boolean.class) {
                arguments[i] = random.nextBoolean();
            } else if (random.nextInt(4) == 0) {
                arguments[i] = random.nextBoolean() ? EDGES[random.nextInt(EDGES.length)] : random.nextInt();
            } else {
                arguments[i] = random.nextInt(random.nextBoolean() ? 4 : 30);
            }
        }
        return arguments;
    }
}
