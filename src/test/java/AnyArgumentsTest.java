import java.lang.reflect.InvocationTargetException;
import java.lang.reflect.Method;
import java.lang.reflect.Modifier;
import java.util.ArrayList;
import java.util.Comparator;
import java.util.List;
import java.util.Random;

/** No call throws, whatever its arguments are and whatever was called ahead of it; the seeds are fixed. */
public final class AnyArgumentsTest {
    private static final int OBJECTS = 500;
    private static final int CALLS = 400;
    private static final int[] EDGES = {Integer.MIN_VALUE, Integer.MIN_VALUE + 1, -1024, -32, -2, -1, 0, 1, 2, 3, 5, 7, 8, 9, 10, 11,
        13, 14, 15, 20, 21, 27, 30, 31, 32, 33, 40, 41, 62, 63, 64, 99, 129, 255, 256, 1023, 1024, 1439, 1600, 9999, 10000,
        0x3b3b3b3b, 0x20202020, Integer.MAX_VALUE - 1, Integer.MAX_VALUE};
    private final Check check = new Check();

    public static void main(String[] args) {
        AnyArgumentsTest test = new AnyArgumentsTest();
        for (int seed = 0; seed < OBJECTS && !test.check.failed(); seed++) {
            test.run(new Random(seed));
        }
        test.check.finish();
    }

    private static List<Method> face() {
        List<Method> face = new ArrayList<>();
        for (Method method : BornAboard.class.getDeclaredMethods()) {
            if (Modifier.isPublic(method.getModifiers())) {
                face.add(method);
            }
        }
        face.sort(Comparator.comparing(Method::getName));
        return face;
    }

    private void run(Random random) {
        List<Method> face = face();
        BornAboard x = new BornAboard();
        if (random.nextInt(5) > 0) {
            Check.tell(x, random.nextBoolean() ? FullTest.full() : new Texts(random).sound(10));
        }
        for (int n = 0; n < CALLS; n++) {
            Method method = face.get(random.nextInt(face.size()));
            // The tape is mostly empty or no text, so that each line() may leave nothing to ask about.
            if (method.getName().equals("line") && random.nextInt(20) > 0) {
                continue;
            }
            Object[] args = new Object[method.getParameterCount()];
            for (int k = 0; k < args.length; k++) {
                int number = random.nextInt(3) == 0 ? EDGES[random.nextInt(EDGES.length)] : random.nextInt(12) - 1;
                args[k] = method.getParameterTypes()[k] == boolean.class ? (Object) random.nextBoolean() : (Object) number;
            }
            call(x, method, args);
        }
    }

    private void call(BornAboard x, Method method, Object[] args) {
        String call = method.getName() + java.util.Arrays.toString(args);
        check.begin(call);
        try {
            check.is("an answer is there", method.invoke(x, args) != null, true);
        } catch (InvocationTargetException e) {
            check.threw(e.getCause());
        } catch (IllegalAccessException e) {
            check.threw(e);
        }
    }
}
