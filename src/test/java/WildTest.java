import java.lang.reflect.InvocationTargetException;
import java.lang.reflect.Method;
import java.lang.reflect.Modifier;
import java.util.Arrays;
import java.util.Comparator;
import java.util.List;
import java.util.Random;

/** No call throws, whatever its arguments, in whatever state, also behind the 512th call. */
public final class WildTest {
    private static final int OBJECTS = 150, CALLS = 1500;
    private static final int[] EDGES = {
        Integer.MIN_VALUE, Integer.MIN_VALUE + 1, -65536, -2, -1, 0, 1, 2, 3, 4, 5, 7, 8, 11, 12, 13, 15, 16, 17, 19, 20, 21,
        24, 39, 40, 60, 61, 64, 4799, 4800, 65536, Integer.MAX_VALUE - 1, Integer.MAX_VALUE,
    };
    private static final String LETTERS = "aAbB19- \"+,fe0";

    public static void main(String[] args) throws IllegalAccessException {
        Check check = new Check();
        Random random = new Random(77);
        List<Method> calls = Arrays.stream(ShownOnce.class.getDeclaredMethods())
            .filter(m -> Modifier.isPublic(m.getModifiers()))
            .sorted(Comparator.comparing(Method::getName)).toList();
        for (int i = 0; i < OBJECTS; i++) {
            check.due("object " + i, wild(new ShownOnce(), calls, random), null);
        }
        check.close("WildTest");
    }

    private static String wild(ShownOnce x, List<Method> calls, Random random) throws IllegalAccessException {
        for (int i = 0; i < CALLS; i++) {
            if (random.nextInt(3) == 0) {
                x.type(letters(random), 1 + random.nextInt(8));
            }
            Method call = calls.get(random.nextInt(calls.size()));
            Object[] with = new Object[call.getParameterCount()];
            for (int k = 0; k < with.length; k++) {
                int v = random.nextInt(3) == 0 ? EDGES[random.nextInt(EDGES.length)] : random.nextInt(5);
                with[k] = call.getParameterTypes()[k] == long.class ? (Object) letters(random) : (Object) v;
            }
            try {
                call.invoke(x, with);
            } catch (InvocationTargetException e) {
                return call.getName() + Arrays.toString(with) + " threw " + e.getCause();
            }
        }
        return null;
    }

    private static long letters(Random random) {
        if (random.nextInt(20) == 0) {
            return random.nextLong();
        }
        long w = 0;
        for (int i = 0; i < 8; i++) {
            w = w << 8 | LETTERS.charAt(random.nextInt(LETTERS.length()));
        }
        return w;
    }
}
