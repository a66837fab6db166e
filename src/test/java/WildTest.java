import java.lang.reflect.InvocationTargetException;
import java.lang.reflect.Method;
import java.lang.reflect.Modifier;
import java.util.Arrays;
import java.util.Comparator;
import java.util.Random;

/** Any numbers at all, in any state: no call may throw. */
public final class WildTest {
    private static final int[] WILD = {Integer.MIN_VALUE, Integer.MIN_VALUE + 1, -100, -10, -9, -2, -1, 0, 1, 2, 3, 4, 5,
        6, 7, 8, 9, 10, 11, 13, 14, 15, 16, 17, 19, 20, 21, 39, 40, 48, 58, 59, 60, 61, 64, 78, 79, 99, 100, 127, 128,
        199, 200, 255, 256, 999, 1000, 1023, 1024, 9999, 10000, 16383, 16384, 1 << 30, Integer.MAX_VALUE};

    public static void main(String[] args) throws ReflectiveOperationException {
        Check c = new Check();
        Method[] calls = Arrays.stream(WireWatch.class.getDeclaredMethods())
            .filter(m -> Modifier.isPublic(m.getModifiers()))
            .sorted(Comparator.comparing(Method::getName))
            .toArray(Method[]::new);
        for (int seed = 0; seed < 300; seed++) {
            Random chance = new Random(seed);
            WireWatch x = new WireWatch();
            // far beyond 512 calls, where answers are free but a throw is still none
            for (int k = 0; k < 3000; k++) {
                Method call = calls[chance.nextInt(calls.length)];
                Object[] numbers = wild(chance, call);
                try {
                    call.invoke(x, numbers);
                } catch (InvocationTargetException e) {
                    c.isTrue(call.getName() + Arrays.toString(numbers) + " threw " + e.getCause(), false);
                }
            }
        }
        c.due("calls", calls.length, 48);
        c.end();
    }

    private static Object[] wild(Random chance, Method call) {
        Class<?>[] kinds = call.getParameterTypes();
        Object[] numbers = new Object[kinds.length];
        for (int k = 0; k < kinds.length; k++) {
            boolean small = chance.nextInt(3) != 0;
            numbers[k] = kinds[k] == boolean.class ? (Object) chance.nextBoolean()
                : small ? (Object) chance.nextInt(4) : (Object) WILD[chance.nextInt(WILD.length)];
        }
        return numbers;
    }
}
