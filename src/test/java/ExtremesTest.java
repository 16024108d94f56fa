import java.lang.reflect.InvocationTargetException;
import java.lang.reflect.Method;
import java.util.ArrayList;
import java.util.Arrays;
import java.util.Comparator;
import java.util.List;
import java.util.Random;

/** Any call with any numbers, the outermost ones too, in any state: none throws, each answers as PlainTale does. */
public final class ExtremesTest {
    private static final int RUNS = 200, CALLS = 500;
    private static final int[] EXTREMES = {Integer.MIN_VALUE, Integer.MIN_VALUE + 1, -1000, -10, -9, -2, -1, 12, 13, 24,
        29, 30, 31, 99, 100, 199, 200, 255, 256, 299, 300, 301, 1 << 20, 1 << 30, Integer.MAX_VALUE - 1,
        Integer.MAX_VALUE};
    private final Random random;
    private final TalePlay x = new TalePlay();
    private final PlainTale p = new PlainTale();

    private ExtremesTest(long seed) {
        random = new Random(seed);
    }

    public static void main(String[] args) throws ReflectiveOperationException {
        List<Method> calls = new ArrayList<>();
        for (Method m : TalePlay.class.getDeclaredMethods()) {
            if (java.lang.reflect.Modifier.isPublic(m.getModifiers())) {
                calls.add(m);
            }
        }
        calls.sort(Comparator.comparing(Method::getName));
        Due due = new Due("ExtremesTest");
        for (int run = 0; run < RUNS; run++) {
            ExtremesTest test = new ExtremesTest(run);
            test.prepare();
            for (int i = 0; i < CALLS; i++) {
                test.call(due, calls.get(test.random.nextInt(calls.size())), 25);
            }
        }
        due.done();
    }

    /** A few objects and a tale, so that numbers in range mean something. */
    private void prepare() {
        int[] kinds = {0, 5, 3, 1, 4, 2, 0};
        for (int kind : kinds) {
            x.make(kind, 5);
            p.make(kind, 5);
        }
        for (int o = 1; o < 5; o++) {
            x.say(0, o, 0, 0);
            p.say(0, o, 0, 0);
        }
        x.begin(1);
        p.begin(1);
    }

    private int number(int extremes) {
        if (random.nextInt(100) < extremes) {
            return EXTREMES[random.nextInt(EXTREMES.length)];
        }
        return random.nextInt(8);
    }

    private Object argument(Class<?> type, int extremes) {
        if (type == boolean.class) {
            return random.nextBoolean();
        }
        if (type == long.class) {
            return random.nextInt(3) == 0 ? Long.MIN_VALUE + random.nextInt(3) : random.nextLong();
        }
        return number(extremes);
    }

    private void call(Due due, Method m, int extremes) throws ReflectiveOperationException {
        Class<?>[] types = m.getParameterTypes();
        Object[] arguments = new Object[types.length];
        for (int i = 0; i < types.length; i++) {
            arguments[i] = argument(types[i], extremes);
        }
        String text = m.getName() + Arrays.toString(arguments);
        Method plain = PlainTale.class.getDeclaredMethod(m.getName(), types);
        try {
            long got = ((Number) m.invoke(x, arguments)).longValue();
            due.be(text, got, ((Number) plain.invoke(p, arguments)).longValue());
        } catch (InvocationTargetException e) {
            due.be(text + " threw " + e.getCause(), 1, 0);
        }
    }
}
