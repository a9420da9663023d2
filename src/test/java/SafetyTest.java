import java.lang.reflect.InvocationTargetException;
import java.lang.reflect.Method;
import java.lang.reflect.Modifier;
import java.util.ArrayList;
import java.util.List;

/** No call throws, whatever its arguments are, and calls make no objects that would fill the room. */
public final class SafetyTest {
    private static final int[] ODD = {Integer.MIN_VALUE, Integer.MIN_VALUE + 1, -1000000, -5, -2, -1, 0, 1, 2, 3, 4,
        5, 6, 7, 8, 19, 20, 26, 59, 60, 61, 100, 1000, 5000, 20000, 100000, 1000000, Integer.MAX_VALUE - 1,
        Integer.MAX_VALUE};
    private static long seed = 7L;

    public static void main(String[] args) throws IllegalAccessException {
        List<Method> methods = new ArrayList<>();
        for (Method method : DarkVats.class.getDeclaredMethods()) {
            if (Modifier.isPublic(method.getModifiers())) {
                methods.add(method);
            }
        }
        Calls.check("methods of the face", methods.size(), 29);
        methods.sort((one, other) -> one.getName().compareTo(other.getName()));
        for (int run = 0; run < 3000; run++) {
            oddRun(methods, run);
        }
        everyOddArgument(methods);
        allocatesLittle();
        Calls.end();
    }

    private static int below(int bound) {
        seed = seed * 6364136223846793005L + 1442695040888963407L;
        return (int) ((seed >>> 33) % bound);
    }

    private static int odd() {
        return below(2) == 0 ? below(8) : ODD[below(ODD.length)];
    }

    private static void oddRun(List<Method> methods, int run) throws IllegalAccessException {
        DarkVats object = new DarkVats();
        for (int i = 0; i < 4; i++) {
            object.vat(i, 10 + i);
            object.weigh(i, 100000);
            object.lot(i % 2, 100 + i);
            object.order(i, 0, 0, 0);
        }
        for (int i = 16; i < 512; i++) {
            Method method = methods.get(below(methods.size()));
            Object[] arguments = new Object[method.getParameterCount()];
            for (int k = 0; k < arguments.length; k++) {
                arguments[k] = odd();
            }
            doesNotThrow(method, object, arguments, "run " + run);
        }
    }

    private static void everyOddArgument(List<Method> methods) throws IllegalAccessException {
        for (Method method : methods) {
            int count = method.getParameterCount();
            for (int place = 0; place < count; place++) {
                for (int value : ODD) {
                    Object[] arguments = new Object[count];
                    java.util.Arrays.fill(arguments, 0);
                    arguments[place] = value;
                    doesNotThrow(method, new DarkVats(), arguments, "new");
                }
            }
        }
    }

    private static void doesNotThrow(Method method, DarkVats object, Object[] arguments, String where)
            throws IllegalAccessException {
        try {
            method.invoke(object, arguments);
            Calls.check("throws", 0, 0);
        } catch (InvocationTargetException e) {
            Calls.check(where + ": " + method.getName() + java.util.Arrays.toString(arguments) + " threw "
                + e.getCause(), 1, 0);
        }
    }

    // The room of a run is some 600,000 objects and 7.3 million fields and elements in all.
    private static void allocatesLittle() {
        com.sun.management.ThreadMXBean bean =
            (com.sun.management.ThreadMXBean) java.lang.management.ManagementFactory.getThreadMXBean();
        long thread = Thread.currentThread().getId();
        long most = 0;
        for (int round = 0; round < 3; round++) {
            long before = bean.getThreadAllocatedBytes(thread);
            busyRun(new DarkVats());
            most = bean.getThreadAllocatedBytes(thread) - before;
        }
        Calls.check("a run makes " + most + " bytes of objects; few enough", most < 8000000 ? 1 : 0, 1);
    }

    private static void busyRun(DarkVats object) {
        for (int i = 0; i < 6; i++) {
            object.vat(i % 4, 10);
            object.weigh(i, 50000);
        }
        for (int i = 0; i < 20; i++) {
            object.lot(i % 2, 100 + i);
        }
        object.order(20000, 0, 0, 1);
        for (char sign : "d0,0;h0,0;t0;r0;e5;".toCharArray()) {
            object.type(sign);
        }
        for (int i = 0; i < 100; i++) {
            object.plan(0, 0, -1);
            object.play();
            object.fault(0);
            object.undo();
        }
    }
}
