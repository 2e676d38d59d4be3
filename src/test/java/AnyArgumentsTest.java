import java.lang.reflect.InvocationTargetException;
import java.lang.reflect.Method;
import java.util.Arrays;
import java.util.Comparator;
import java.util.Random;

/**
 * Calls with arguments from all over, in states by chance (always the same ones): what is thrown is what the
 * document names for the call, it is thrown by the program and not by the machine, and it changes nothing.
 */
public final class AnyArgumentsTest {
    private static final int OBJECTS = 400;
    private static final int CALLS = 512;
    private static final int[] NUMBERS = {Integer.MIN_VALUE, Integer.MIN_VALUE + 1, -1440, -1, 0, 0, 0, 1, 1, 2, 3, 4,
        5, 6, 7, 8, 9, 15, 16, 19, 20, 23, 24, 30, 31, 60, 61, 100, 127, 128, 180, 181, 300, 365, 366, 500, 501, 1439,
        1440, 2000, 2879, 2880, 2881, 10000, 499999, 500000, 500001, Integer.MAX_VALUE - 1, Integer.MAX_VALUE};

    private static int wrong = 0;

    public static void main(String[] args) throws IllegalAccessException {
        Method[] methods = WhistleStop.class.getDeclaredMethods();
        methods = Arrays.stream(methods).filter(m -> java.lang.reflect.Modifier.isPublic(m.getModifiers()))
            .sorted(Comparator.comparing(Method::getName)).toArray(Method[]::new);
        if (methods.length != 36) {
            wrong++;
            System.out.println("there are " + methods.length + " public methods, due are 36");
        }
        Random random = new Random(4711);
        for (int object = 0; object < OBJECTS && wrong < 20; object++) {
            WhistleStop x = new WhistleStop();
            for (int call = 0; call < CALLS && wrong < 20; call++) {
                call(x, methods[random.nextInt(methods.length)], random);
                if (call % 2 == 0 && call < 80) {
                    grow(x, random);
                }
            }
        }
        System.out.println(wrong == 0 ? "only what is due is thrown" : wrong + " calls are wrong");
        if (wrong != 0) {
            System.exit(1);
        }
    }

    private static void grow(WhistleStop x, Random random) {
        try {
            switch (random.nextInt(5)) {
                case 0 -> x.addStop(random.nextInt(31));
                case 1 -> x.addFootway(random.nextInt(x.stops() + 1), random.nextInt(x.stops() + 1),
                    1 + random.nextInt(60));
                case 2 -> x.addCalendar(127, 0, 365);
                case 3 -> x.addTrip(0, random.nextInt(501), random.nextInt(x.stops() + 1), random.nextInt(1440));
                default -> x.addCall(random.nextInt(x.trips() + 1), random.nextInt(x.stops() + 1), 1500, 1500);
            }
        } catch (RuntimeException e) {
            // A wrong call is as good here.
        }
    }

    private static void call(WhistleStop x, Method method, Random random) throws IllegalAccessException {
        Object[] arguments = new Object[method.getParameterCount()];
        for (int k = 0; k < arguments.length; k++) {
            boolean isFlag = method.getParameterTypes()[k] == boolean.class;
            arguments[k] = isFlag ? (Object) random.nextBoolean() : (Object) NUMBERS[random.nextInt(NUMBERS.length)];
        }
        long before = x.digest();
        try {
            method.invoke(x, arguments);
        } catch (InvocationTargetException e) {
            Throwable thrown = e.getCause();
            boolean isNamed = Arrays.asList(method.getExceptionTypes()).contains(thrown.getClass());
            StackTraceElement where = thrown.getStackTrace().length > 0 ? thrown.getStackTrace()[0] : null;
            boolean isOwn = where != null && where.getMethodName().startsWith("need");
            if (!isNamed || !isOwn || x.digest() != before) {
                wrong++;
                System.out.println(method.getName() + Arrays.toString(arguments) + " threw " + thrown + " at " + where);
            }
        }
    }
}
