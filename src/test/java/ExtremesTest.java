import java.lang.reflect.Method;
import java.lang.reflect.Modifier;
import java.util.Arrays;

/** Each call with all numbers from far below to far above in all its places, on the program and on PlainClaque. */
public final class ExtremesTest {
    private static final int[] NUMBERS = {Integer.MIN_VALUE, Integer.MIN_VALUE + 1, -2, -1, 0, 1, 2, 3, 4, 7, 8, 9, 10,
        13, 40, 61, 100, Integer.MAX_VALUE - 1, Integer.MAX_VALUE};
    private static final int[] FEWER = {Integer.MIN_VALUE, -1, 0, 1, 3, 7, 8, 9, Integer.MAX_VALUE};
    private static final int CALLS_MOST = 512;

    private final Object[][] recipe;
    private HiredClaque x;
    private PlainClaque plain;
    private int calls = CALLS_MOST;

    private ExtremesTest(Object[][] recipe) {
        this.recipe = recipe;
    }

    public static void main(String[] args) throws Exception {
        Object[][] nothing = {};
        Object[][] some = {{"person", 0, 50, 4, 0}, {"keep"}, {"person", 4, 95, 6, 1}, {"person", 5, 3, 9, 0},
            {"clap", 1, 1}, {"clap", 2, 1}, {"set", 3, 60}, {"sheet", 0, 0, 9}, {"put", 0, 1, 200}, {"put", 0, 8, 77},
            {"sheet", 2, 3, 3}, {"put", 2, 2, -1}, {"sheet", 3, 2, 0}, {"shelf", 0, 0, 1}, {"shelf", 1, 1, 0},
            {"shelf", 3, 0, 2}, {"prove", 1, 4}, {"act", 0, 3, 9}, {"feed", 0x2020202020L, 5}};
        Object[][] full = new Object[some.length + 5][];
        System.arraycopy(some, 0, full, 0, some.length);
        for (int p = 3; p < 8; p++) {
            full[some.length + p - 3] = new Object[] {"person", p - 3, 10 * p, p, p};
        }
        for (Object[][] recipe : new Object[][][] {nothing, some, full}) {
            for (Method method : HiredClaque.class.getDeclaredMethods()) {
                if (Modifier.isPublic(method.getModifiers())) {
                    new ExtremesTest(recipe).all(method);
                }
            }
        }
        Due.end();
    }

    private static Method plainly(Method method) throws Exception {
        return PlainClaque.class.getDeclaredMethod(method.getName(), method.getParameterTypes());
    }

    private static Method named(String name) {
        return Arrays.stream(HiredClaque.class.getDeclaredMethods())
            .filter(m -> m.getName().equals(name) && Modifier.isPublic(m.getModifiers())).findFirst().get();
    }

    private void all(Method method) throws Exception {
        Class<?>[] kinds = method.getParameterTypes();
        int[] numbers = kinds.length > 3 ? FEWER : NUMBERS;
        int ways = 1;
        for (int i = 0; i < kinds.length; i++) {
            ways *= numbers.length;
        }
        for (int way = 0; way < ways; way++) {
            Object[] arguments = new Object[kinds.length];
            int left = way;
            for (int i = 0; i < kinds.length; i++) {
                int v = numbers[left % numbers.length];
                arguments[i] = kinds[i] == long.class ? (Object) (long) v : (Object) v;
                left /= numbers.length;
            }
            ask(method, arguments);
        }
    }

    private void ask(Method method, Object[] arguments) throws Exception {
        if (calls >= CALLS_MOST) {
            x = new HiredClaque();
            plain = new PlainClaque();
            calls = 0;
            for (Object[] step : recipe) {
                ask(named((String) step[0]), Arrays.copyOfRange(step, 1, step.length));
            }
        }
        calls++;
        long got = ((Number) method.invoke(x, arguments)).longValue();
        long want = ((Number) plainly(method).invoke(plain, arguments)).longValue();
        Due.eq(method.getName() + Arrays.toString(arguments), got, want);
    }
}
