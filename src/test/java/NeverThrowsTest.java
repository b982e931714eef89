import java.lang.reflect.InvocationTargetException;
import java.lang.reflect.Method;
import java.lang.reflect.Modifier;
import java.util.Arrays;
import java.util.Comparator;
import java.util.Random;

/** Calls of the whole face with numbers from far and near, in any state: none may throw. */
public final class NeverThrowsTest {
    private static final int[] ENDS = {Integer.MIN_VALUE, Integer.MIN_VALUE + 1, -2, -1, 0, 1, 2, 3, 7, 8, 9, 10, 11, 12,
        63, 64, 65, 99, 100, 119, 120, 121, 699, 700, 701, 999, 1000, 1001, 4369, 9999, 10000, 20000, 20001, 65535, 65536,
        10000000, 10000001, Integer.MAX_VALUE - 1, Integer.MAX_VALUE};

    private final Random random;
    private final HookBoard board = new HookBoard();

    private NeverThrowsTest(long seed) {
        random = new Random(seed);
    }

    public static void main(String[] args) throws IllegalAccessException {
        Check check = new Check();
        Method[] face = Arrays.stream(HookBoard.class.getDeclaredMethods())
            .filter(m -> Modifier.isPublic(m.getModifiers()))
            .sorted(Comparator.comparing(Method::getName)).toArray(Method[]::new);
        check.due("methods", face.length, 37);
        for (int run = 0; run < 2000; run++) {
            NeverThrowsTest test = new NeverThrowsTest(run);
            for (int i = 0; i < 512; i++) {
                test.call(check, "run " + run + ": ", face[test.random.nextInt(face.length)]);
            }
        }
        check.finish();
    }

    private void call(Check check, String label, Method method) throws IllegalAccessException {
        if (random.nextInt(60) == 0) {
            TextMaker maker = new TextMaker(random);
            String text = maker.text();
            Check.text(board, text.substring(0, Math.min(700, text.length())), 1 + random.nextInt(8), 1 + random.nextInt(8));
            return;
        }
        Class<?>[] types = method.getParameterTypes();
        Object[] values = new Object[types.length];
        for (int i = 0; i < types.length; i++) {
            values[i] = types[i] == boolean.class ? (Object) random.nextBoolean()
                : types[i] == long.class ? (Object) (long) number() : (Object) number();
        }
        try {
            method.invoke(board, values);
        } catch (InvocationTargetException e) {
            check.due(label + method.getName() + Arrays.toString(values) + " threw " + e.getCause(), 1, 0);
        }
    }

    private int number() {
        return random.nextInt(3) == 0 ? ENDS[random.nextInt(ENDS.length)] : random.nextInt(4) == 0 ? random.nextInt(100)
            : random.nextInt(5);
    }
}
