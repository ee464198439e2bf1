import java.lang.reflect.InvocationTargetException;
import java.lang.reflect.Method;
import java.lang.reflect.Modifier;
import java.util.Arrays;
import java.util.Comparator;
import java.util.Random;

/** No call throws, whatever it is given, in whatever state: calls of all methods with numbers about every boundary. */
public final class NeverThrowsTest {
    private static final int RUNS = 400, CALLS = 512;
    private static final int[] NUMBERS = {Integer.MIN_VALUE, Integer.MIN_VALUE + 1, -1000000, -129, -2, -1, 0, 0, 1, 1,
        2, 2, 3, 4, 5, 6, 7, 8, 9, 10, 16, 20, 21, 23, 24, 25, 31, 32, 39, 40, 41, 50, 59, 60, 61, 98, 99, 100, 127,
        128, 255, 256, 399, 400, 9999, 65536, Integer.MAX_VALUE - 1, Integer.MAX_VALUE};
    private static final String[] TEXTS = {"room 1;", "room 9;room 5;door 0 1;crowd few 0 5;crowd late 1 5;",
        "room 9;room 5;room 20;room 0;room 7;room 3;door 0 1;door 1 2;door 2 3;door 3 0;door 4 5;"
            + "crowd most 0 5;crowd like 1 4;crowd late 2 3;crowd stay 1 8;crowd few 3 2;",
        "room 1;room 2;x", "room ", "crowd", ";;;;", "room 99999;", ""};

    public static void main(String[] args) throws IllegalAccessException {
        Method[] methods = Arrays.stream(MostRooms.class.getDeclaredMethods())
            .filter(m -> Modifier.isPublic(m.getModifiers()))
            .sorted(Comparator.comparing(Method::getName)).toArray(Method[]::new);
        for (int seed = 0; seed < RUNS; seed++) {
            run(methods, new Random(seed));
        }
        System.out.println(RUNS + " runs of " + CALLS + " calls, none of which threw");
    }

    private static void run(Method[] methods, Random random) throws IllegalAccessException {
        MostRooms x = new MostRooms();
        for (int k = 0; k < CALLS; k++) {
            if (random.nextInt(40) == 0) {
                Due.feed(x, TEXTS[random.nextInt(TEXTS.length)]);
                x.house();
            }
            Method m = methods[random.nextInt(methods.length)];
            Object[] given = new Object[m.getParameterCount()];
            for (int i = 0; i < given.length; i++) {
                int few = random.nextInt(3) == 0 ? NUMBERS.length : 20;
                int number = NUMBERS[random.nextInt(few)];
                given[i] = m.getParameterTypes()[i] == long.class ? (Object) random.nextLong() : (Object) number;
            }
            try {
                m.invoke(x, given);
            } catch (InvocationTargetException e) {
                System.out.println(m.getName() + Arrays.toString(given) + " threw " + e.getCause());
                System.exit(1);
            }
        }
    }
}
