import java.lang.reflect.InvocationTargetException;
import java.lang.reflect.Method;
import java.lang.reflect.Modifier;
import java.util.ArrayList;
import java.util.Comparator;
import java.util.List;
import java.util.Random;

/** Calls with numbers at the edges of int and long, in all states: none throws, and answers stay in their range. */
public final class SafetyTest {
    private static final int[] EDGES = {Integer.MIN_VALUE, Integer.MIN_VALUE + 1, -2049, -33, -10, -3, -2, -1, 0, 1, 2, 3, 5, 7, 8, 9, 10,
        23, 24, 25, 31, 32, 33, 38, 39, 40, 60, 99, 100, 101, 151, 999, 1000, 1001, 1999, 2000, 2001, 2047, 2048, 5000, 5001, 100000, 100001,
        1000000, 1000001, 536872959, 536872960, Integer.MAX_VALUE - 1, Integer.MAX_VALUE};

    private static List<Method> face() {
        List<Method> face = new ArrayList<>();
        for (Method m : RankWire.class.getDeclaredMethods()) {
            if (Modifier.isPublic(m.getModifiers())) {
                face.add(m);
            }
        }
        face.sort(Comparator.comparing(Method::getName));
        return face;
    }

    private static Object number(Random random, Class<?> type) {
        int n = random.nextInt(3) == 0 ? EDGES[random.nextInt(EDGES.length)] : random.nextInt(random.nextBoolean() ? 5 : 60);
        if (type == long.class) {
            return random.nextBoolean() ? (Object) (long) n : (Object) random.nextLong();
        }
        return n;
    }

    /** false if the call threw. */
    private static boolean isCalled(RankWire x, Method m, Random random) throws IllegalAccessException {
        Class<?>[] types = m.getParameterTypes();
        Object[] numbers = new Object[types.length];
        for (int i = 0; i < types.length; i++) {
            numbers[i] = number(random, types[i]);
        }
        try {
            Object answer = m.invoke(x, numbers);
            return answer instanceof Long || (Integer) answer >= RankWire.SAME
                || m.getName().equals("row") && (Integer) answer >= -128;
        } catch (InvocationTargetException thrown) {
            thrown.getCause().printStackTrace(System.out);
            return false;
        }
    }

    private static boolean isSafe(int seed, int calls) throws IllegalAccessException {
        Random random = new Random(seed);
        List<Method> face = face();
        RankWire x = new RankWire();
        int nodes = random.nextInt(11);
        for (int i = 0; i < nodes; i++) {
            x.node();
        }
        int words = random.nextInt(26);
        for (int i = 0; i < words; i++) {
            x.word(random.nextInt(10), random.nextInt(4096), 10 * random.nextInt(4) + random.nextInt(9), 100 + random.nextInt(900), random.nextInt(20));
        }
        for (int i = 0; i < calls; i++) {
            Method m = face.get(random.nextInt(face.size()));
            if (!isCalled(x, m, random)) {
                System.out.println(m.getName() + "() is wrong in call " + i + " of seed " + seed);
                return false;
            }
        }
        return true;
    }

    public static void main(String[] args) throws IllegalAccessException {
        for (int seed = 0; seed < 300; seed++) {
            // also far beyond the 512 calls of which answers are promised
            if (!isSafe(seed, seed % 50 == 0 ? 20000 : 512)) {
                System.exit(1);
            }
        }
        System.out.println("no call threw");
    }
}
