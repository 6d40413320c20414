import java.lang.reflect.InvocationTargetException;
import java.lang.reflect.Method;
import java.util.ArrayList;
import java.util.Arrays;
import java.util.List;
import java.util.Random;

/**
 * Calls each method with all kinds of numbers on all kinds of benches: only the exceptions that its head names
 * may come out, thrown by a throw statement of the class itself, and a call that throws, or that only asks,
 * changes nothing.
 */
public final class GuardTest {
    private static final int[] NUMBERS = {Integer.MIN_VALUE, Integer.MIN_VALUE + 1, -4096, -100, -10, -2, -1, 0, 1, 2, 3, 4, 5,
        6, 7, 8, 9, 10, 11, 50, 98, 99, 100, 101, 4095, 4096, 999999, 1000000, Integer.MAX_VALUE - 1, Integer.MAX_VALUE};
    private static final List<String> CHANGING = List.of("thing", "begin", "end", "call", "retell", "forget", "wipe",
            "tape", "trial", "write", "read", "deliver", "lose", "repeat", "step", "unstep", "knock");
    private static final int BENCHES = 300;

    private static int wrong = 0;
    private static int thrown = 0;

    public static void main(String[] args) throws Exception {
        List<Method> methods = new ArrayList<>();
        for (Method method : Callorder.class.getDeclaredMethods()) {
            if (java.lang.reflect.Modifier.isPublic(method.getModifiers())) {
                methods.add(method);
            }
        }
        methods.sort((a, b) -> a.getName().compareTo(b.getName()));
        for (int seed = 0; seed < BENCHES && wrong < 10; seed++) {
            goOn(new Random(seed), methods);
        }
        System.out.println("GuardTest: " + thrown + " exceptions, " + wrong + " wrong");
        if (wrong > 0 || methods.size() != 52) {
            System.exit(1);
        }
    }

    private static void goOn(Random random, List<Method> methods) throws Exception {
        Callorder bench = new Callorder();
        int calls = 0;
        int boldness = 2 + random.nextInt(12);
        while (calls < 510) {
            Method method = methods.get(random.nextInt(methods.size()));
            if (random.nextInt(3) == 0) {
                method = likely(random, methods);
            }
            if (method.getName().equals("wipe") && random.nextInt(8) > 0) {
                continue;
            }
            Object[] with = new Object[method.getParameterCount()];
            for (int i = 0; i < with.length; i++) {
                boolean isBold = random.nextInt(boldness) == 0;
                int number = isBold ? NUMBERS[random.nextInt(NUMBERS.length)] : random.nextInt(i == 0 ? 3 : 4);
                with[i] = method.getParameterTypes()[i] == boolean.class ? (Object) random.nextBoolean() : (Object) number;
            }
            boolean isChecked = random.nextInt(4) == 0;
            long before = isChecked ? bench.digest() : 0;
            boolean mayChange = CHANGING.contains(method.getName());
            try {
                method.invoke(bench, with);
            } catch (InvocationTargetException e) {
                mayChange = false;
                lookAt(e.getCause(), method, with);
            }
            calls += isChecked ? 3 : 1;
            if (isChecked && !mayChange && bench.digest() != before) {
                wrong++;
                System.out.println(method.getName() + Arrays.toString(with) + " changed something");
            }
        }
    }

    private static Method likely(Random random, List<Method> methods) {
        String[] names = {"thing", "begin", "end", "step", "write", "trial", "begin", "end"};
        String name = names[random.nextInt(names.length)];
        for (Method method : methods) {
            if (method.getName().equals(name)) {
                return method;
            }
        }
        return methods.get(0);
    }

    private static void lookAt(Throwable e, Method method, Object[] with) {
        thrown++;
        boolean isNamed = false;
        for (Class<?> named : method.getExceptionTypes()) {
            isNamed |= named == e.getClass();
        }
        boolean isOwn = e.getStackTrace().length > 0 && e.getStackTrace()[0].getClassName().equals("Callorder");
        if (!isNamed || !isOwn) {
            wrong++;
            System.out.println(method.getName() + Arrays.toString(with) + " threw " + e);
            e.printStackTrace(System.out);
        }
    }
}
