import java.io.DataInputStream;
import java.io.IOException;
import java.io.InputStream;
import java.lang.reflect.Constructor;
import java.lang.reflect.Field;
import java.lang.reflect.Method;
import java.lang.reflect.Modifier;
import java.util.ArrayList;
import java.util.Arrays;
import java.util.List;
import java.util.Map;
import java.util.TreeSet;

/** The face of the class, word for word, and the library that its compiled classes name, by ../shared/LANGUAGE.md. */
public final class LibraryTest {
    private static final String[] FACE = {"vat 2", "weigh 2", "drain 1", "vatOf 2", "vatAt 1", "lot 2", "dip 2",
        "rinse 1", "hang 2", "take 1", "lotOf 2", "shade 2", "shadeBits 2", "meanBits 1", "order 4", "sell 2",
        "orderOf 2", "match 2", "alike 1", "plan 3", "takes 3", "account 2", "count 1", "set 2", "undo 0", "type 1",
        "clearText 0", "fault 1", "play 0"};

    private static final Map<String, String> LIBRARY = Map.ofEntries(
        Map.entry("java/lang/Object", "<init>"), Map.entry("java/lang/Record", "<init>"),
        Map.entry("java/lang/Enum", "<init> ordinal"),
        Map.entry("java/lang/String", "<init> length charAt isEmpty equals indexOf substring toCharArray"),
        Map.entry("java/lang/StringBuilder",
            "<init> append charAt setCharAt setLength deleteCharAt reverse length toString"),
        Map.entry("java/util/ArrayList", "<init> add get set remove size isEmpty clear iterator"),
        Map.entry("java/util/List", "add get set remove size isEmpty clear iterator of"),
        Map.entry("java/util/Iterator", "hasNext next"), Map.entry("java/lang/Iterable", "iterator"),
        Map.entry("java/lang/Comparable", "compareTo"), Map.entry("java/lang/Integer", "*"),
        Map.entry("java/lang/Long", "*"), Map.entry("java/lang/Math", "*"),
        Map.entry("java/lang/System", "arraycopy"), Map.entry("java/util/Arrays", "copyOf copyOfRange fill"));

    private static final TreeSet<String> EXCEPTIONS = new TreeSet<>(List.of("java/lang/IllegalStateException",
        "java/lang/IllegalArgumentException", "java/lang/IndexOutOfBoundsException", "java/lang/ArithmeticException",
        "java/lang/UnsupportedOperationException", "java/util/NoSuchElementException", "java/lang/RuntimeException"));

    public static void main(String[] args) throws IOException, IllegalAccessException {
        members();
        List<Class<?>> classes = new ArrayList<>();
        gather(DarkVats.class, classes);
        Calls.check("some twelve classes: " + classes.size(), classes.size() <= 14 ? 1 : 0, 1);
        for (Class<?> type : classes) {
            namesOf(type);
            fieldsOf(type);
            methodsOf(type);
        }
        Calls.end();
    }

    private static void gather(Class<?> type, List<Class<?>> classes) {
        classes.add(type);
        for (Class<?> inner : type.getDeclaredClasses()) {
            int shown = inner.getModifiers() & (Modifier.PUBLIC | Modifier.PROTECTED);
            Calls.check(inner + " is private or package-visible", shown, 0);
            gather(inner, classes);
        }
    }

    private static void members() throws IllegalAccessException {
        TreeSet<String> methods = new TreeSet<>();
        for (Method method : DarkVats.class.getDeclaredMethods()) {
            if (method.isSynthetic() || Modifier.isPrivate(method.getModifiers())) {
                continue;
            }
            boolean ints = method.getReturnType() == int.class && method.getModifiers() == Modifier.PUBLIC;
            for (Class<?> kind : method.getParameterTypes()) {
                ints = ints && kind == int.class;
            }
            Calls.check(method.toString(), ints ? 1 : 0, 1);
            methods.add(method.getName() + " " + method.getParameterCount());
        }
        Calls.check("methods " + methods, methods.equals(new TreeSet<>(Arrays.asList(FACE))) ? 1 : 0, 1);
        TreeSet<String> fields = new TreeSet<>();
        for (Field field : DarkVats.class.getDeclaredFields()) {
            if (!field.isSynthetic() && !Modifier.isPrivate(field.getModifiers())) {
                fields.add(Modifier.toString(field.getModifiers()) + " " + field.getName() + " " + field.get(null));
            }
        }
        Calls.check("constants", fields.equals(new TreeSet<>(Arrays.asList(
            "public static final INVALID_ARGUMENT -1", "public static final NOT_POSSIBLE -2",
            "public static final LIMIT_REACHED -3", "public static final NOT_FOUND -4"))) ? 1 : 0, 1);
        Constructor<?>[] constructors = DarkVats.class.getDeclaredConstructors();
        Calls.check("constructors", constructors.length, 1);
        Calls.check("constructor", constructors[0].getModifiers(), Modifier.PUBLIC);
        Calls.check("class", DarkVats.class.getModifiers(), Modifier.PUBLIC | Modifier.FINAL);
        Calls.check("no package", DarkVats.class.getPackageName().length(), 0);
    }

    /** Static fields are final (rule 5), and a class has some twenty fields beside its constants (rule 11). */
    private static void fieldsOf(Class<?> type) {
        int own = 0;
        for (Field field : type.getDeclaredFields()) {
            if (Modifier.isStatic(field.getModifiers())) {
                Calls.check(field + " is final", field.getModifiers() & Modifier.FINAL, Modifier.FINAL);
            } else {
                own++;
            }
        }
        Calls.check("some twenty fields: " + type + " has " + own, own <= 22 ? 1 : 0, 1);
    }

    /** At most seven parameters (rule 11), nothing synchronized (6), and no private bearer of a public name (1). */
    private static void methodsOf(Class<?> type) {
        for (Method method : type.getDeclaredMethods()) {
            if (method.isSynthetic()) {
                continue;
            }
            Calls.check(method + " has at most seven parameters", method.getParameterCount() <= 7 ? 1 : 0, 1);
            Calls.check(method + " is plain", method.getModifiers() & (Modifier.SYNCHRONIZED | Modifier.NATIVE), 0);
            for (String name : FACE) {
                boolean same = name.startsWith(method.getName() + " ") && Modifier.isPrivate(method.getModifiers());
                Calls.check(method + " bears no public name", same ? 1 : 0, 0);
            }
        }
    }

    private static boolean isKnown(String owner, String name) {
        if (owner.startsWith("DarkVats") || owner.startsWith("[") && name.equals("clone")) {
            return true;
        }
        if (EXCEPTIONS.contains(owner)) {
            return name.equals("<init>");
        }
        String names = LIBRARY.getOrDefault(owner, "");
        return names.equals("*") ? !name.endsWith("Exact") : Arrays.asList(names.split(" ")).contains(name);
    }

    /** Reads the constant pool of a class file: its references to methods and fields of the library. */
    private static void namesOf(Class<?> type) throws IOException {
        try (InputStream file = type.getResourceAsStream("/" + type.getName() + ".class");
                DataInputStream in = new DataInputStream(file)) {
            in.readInt();
            in.readInt();
            int size = in.readUnsignedShort();
            String[] texts = new String[size];
            int[][] pairs = new int[size][];
            int[] tags = new int[size];
            for (int i = 1; i < size; i++) {
                tags[i] = in.readUnsignedByte();
                switch (tags[i]) {
                    case 1: texts[i] = in.readUTF(); break;
                    case 3: case 4: in.readInt(); break;
                    case 5: case 6: in.readLong(); i++; break;
                    case 7: case 8: case 16: pairs[i] = new int[] {in.readUnsignedShort()}; break;
                    case 9: case 10: case 11: case 12:
                        pairs[i] = new int[] {in.readUnsignedShort(), in.readUnsignedShort()}; break;
                    default: throw new IOException("tag " + tags[i]);
                }
            }
            for (int i = 1; i < size; i++) {
                if (tags[i] >= 9 && tags[i] <= 11) {
                    String owner = texts[pairs[pairs[i][0]][0]];
                    String name = texts[pairs[pairs[i][1]][0]];
                    Calls.check(type.getName() + " uses " + owner + "." + name, isKnown(owner, name) ? 1 : 0, 1);
                }
            }
        }
    }
}
