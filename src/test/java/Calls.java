import java.lang.reflect.Method;
import java.util.HashMap;
import java.util.Map;

/**
 * Calls on one new object, written as rows such as "vat(0, 50) = 0". The model answers each row
 * too, so that a row that was written wrongly is found.
 */
final class Calls {
    /** What later calls of an object answer is free. */
    static final int MOST_CALLS = 512;

    private static final Map<String, Method> METHODS = new HashMap<>();
    private static int checked = 0;
    private static int wrong = 0;

    static {
        for (Method method : DarkVats.class.getMethods()) {
            if (method.getDeclaringClass() == DarkVats.class) {
                METHODS.put(method.getName() + method.getParameterCount(), method);
            }
        }
    }

    private final String title;
    private final DarkVats object = new DarkVats();
    private final Model model = new Model();
    private int called = 0;

    Calls(String title) {
        this.title = title;
    }

    /** Runs rows on a new object. */
    static Calls of(String title, String... rows) {
        return new Calls(title).then(rows);
    }

    /** Runs more rows; a row "text ..." empties the text and types what follows. */
    Calls then(String... rows) {
        for (String row : rows) {
            if (row.startsWith("text ")) {
                write(row.substring(5));
            } else {
                int equals = row.indexOf('=');
                String call = row.substring(0, equals).trim();
                compare(call, Integer.parseInt(row.substring(equals + 1).trim()));
            }
        }
        return this;
    }

    /** What a call such as "vat(0, 50)" answers. */
    int answer(String call) {
        int[] arguments = argumentsOf(call);
        Object[] boxed = new Object[arguments.length];
        for (int i = 0; i < arguments.length; i++) {
            boxed[i] = arguments[i];
        }
        called++;
        if (called > MOST_CALLS) {
            throw new IllegalStateException(title + ": more than " + MOST_CALLS + " calls");
        }
        try {
            return (Integer) METHODS.get(nameOf(call) + arguments.length).invoke(object, boxed);
        } catch (ReflectiveOperationException e) {
            throw new IllegalStateException(title + ": " + call, e);
        }
    }

    private void write(String signs) {
        answer("clearText()");
        model.answer("clearText", new int[0]);
        for (int i = 0; i < signs.length(); i++) {
            compare("type(" + (int) signs.charAt(i) + ")", i + 1);
        }
    }

    private void compare(String call, int due) {
        check(title + ": " + call, answer(call), due);
        check(title + ": the model's " + call, model.answer(nameOf(call), argumentsOf(call)), due);
    }

    private static String nameOf(String call) {
        return call.substring(0, call.indexOf('(')).trim();
    }

    private static int[] argumentsOf(String call) {
        String inner = call.substring(call.indexOf('(') + 1, call.lastIndexOf(')')).trim();
        String[] parts = inner.isEmpty() ? new String[0] : inner.split(",");
        int[] arguments = new int[parts.length];
        for (int i = 0; i < parts.length; i++) {
            arguments[i] = Integer.parseInt(parts[i].trim());
        }
        return arguments;
    }

    static void check(String what, long got, long due) {
        checked++;
        if (got != due) {
            wrong++;
            System.out.println(what + " answered " + got + ", due is " + due);
        }
    }

    /** Ends the test program. */
    static void end() {
        System.out.println(checked + " checks, " + wrong + " wrong");
        System.exit(wrong == 0 && checked > 0 ? 0 : 1);
    }
}
