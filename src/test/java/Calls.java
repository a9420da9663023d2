import java.lang.reflect.Method;

/** Calls on one new object, written as rows such as "vat(0, 50) = 0". */
final class Calls {
    private static int checked = 0;
    private static int wrong = 0;

    private final String title;
    private final DarkVats object = new DarkVats();

    Calls(String title) {
        this.title = title;
    }

    /** Runs rows on a new object. */
    static Calls of(String title, String... rows) {
        return new Calls(title).then(rows);
    }

    /** Runs more rows; a row "text ..." empties the text and types what follows. */
    Calls then(String... rows) {
        for (String row : rows) {
            if (row.startsWith("text ")) {
                write(row.substring(5));
            } else {
                checkRow(row);
            }
        }
        return this;
    }

    private void write(String signs) {
        object.clearText();
        for (int i = 0; i < signs.length(); i++) {
            compare("type('" + signs.charAt(i) + "')", object.type(signs.charAt(i)), i + 1);
        }
    }

    private void checkRow(String row) {
        int open = row.indexOf('(');
        int close = row.indexOf(')');
        int equals = row.indexOf('=', close);
        String name = row.substring(0, open).trim();
        String inner = row.substring(open + 1, close).trim();
        String[] parts = inner.isEmpty() ? new String[0] : inner.split(",");
        Object[] arguments = new Object[parts.length];
        Class<?>[] kinds = new Class<?>[parts.length];
        for (int i = 0; i < parts.length; i++) {
            arguments[i] = Integer.valueOf(parts[i].trim());
            kinds[i] = int.class;
        }
        int due = Integer.parseInt(row.substring(equals + 1).trim());
        compare(row.substring(0, close + 1), call(name, kinds, arguments), due);
    }

    private int call(String name, Class<?>[] kinds, Object[] arguments) {
        try {
            Method method = DarkVats.class.getMethod(name, kinds);
            return (Integer) method.invoke(object, arguments);
        } catch (ReflectiveOperationException e) {
            throw new IllegalStateException(title + ": " + name, e);
        }
    }

    private void compare(String call, int got, int due) {
        check(title + ": " + call, got, due);
    }

    static void check(String what, long got, long due) {
        checked++;
        if (got != due) {
            wrong++;
            System.out.println(what + " answered " + got + ", due is " + due);
        }
    }

    /** Ends the test program. */
    static void end() {
        System.out.println(checked + " checks, " + wrong + " wrong");
        System.exit(wrong == 0 && checked > 0 ? 0 : 1);
    }
}
