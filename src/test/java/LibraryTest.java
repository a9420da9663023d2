import java.io.DataInputStream;
import java.io.IOException;
import java.io.InputStream;
import java.lang.reflect.Constructor;
import java.lang.reflect.Field;
import java.lang.reflect.Method;
import java.lang.reflect.Modifier;
import java.util.Arrays;
import java.util.TreeSet;

/** The face of the class, word for word, and the library that its compiled classes name. */
public final class LibraryTest {
    private static final String[] FACE = {"vat 2", "weigh 2", "drain 1", "vatOf 2", "vatAt 1", "lot 2", "dip 2",
        "rinse 1", "hang 2", "take 1", "lotOf 2", "shade 2", "shadeBits 2", "meanBits 1", "order 4", "sell 2",
        "orderOf 2", "match 2", "alike 1", "plan 3", "takes 3", "account 2", "count 1", "set 2", "undo 0", "type 1",
        "clearText 0", "fault 1", "play 0"};

    public static void main(String[] args) throws IOException, IllegalAccessException {
        members();
        nested(DarkVats.class);
        Calls.end();
    }

    private static void members() throws IllegalAccessException {
        TreeSet<String> methods = new TreeSet<>();
        for (Method method : DarkVats.class.getDeclaredMethods()) {
            if (method.isSynthetic() || Modifier.isPrivate(method.getModifiers())) {
                continue;
            }
            boolean ints = method.getReturnType() == int.class && method.getModifiers() == Modifier.PUBLIC;
            for (Class<?> kind : method.getParameterTypes()) {
                ints = ints && kind == int.class;
            }
            Calls.check(method.toString(), ints ? 1 : 0, 1);
            methods.add(method.getName() + " " + method.getParameterCount());
        }
        Calls.check("methods " + methods, methods.equals(new TreeSet<>(Arrays.asList(FACE))) ? 1 : 0, 1);
        TreeSet<String> fields = new TreeSet<>();
        for (Field field : DarkVats.class.getDeclaredFields()) {
            if (!Modifier.isPrivate(field.getModifiers())) {
                fields.add(Modifier.toString(field.getModifiers()) + " " + field.getName() + " " + field.get(null));
            }
        }
        Calls.check("constants", fields.equals(new TreeSet<>(Arrays.asList(
            "public static final INVALID_ARGUMENT -1", "public static final NOT_POSSIBLE -2",
            "public static final LIMIT_REACHED -3", "public static final NOT_FOUND -4"))) ? 1 : 0, 1);
        Constructor<?>[] constructors = DarkVats.class.getDeclaredConstructors();
        Calls.check("constructors", constructors.length, 1);
        Calls.check("constructor", constructors[0].getModifiers(), Modifier.PUBLIC);
        Calls.check("class", DarkVats.class.getModifiers(), Modifier.PUBLIC | Modifier.FINAL);
        Calls.check("no package", DarkVats.class.getPackageName().length(), 0);
    }

    private static void nested(Class<?> type) throws IOException {
        namesOf(type);
        for (Class<?> inner : type.getDeclaredClasses()) {
            Calls.check(inner + " is static", inner.getModifiers() & Modifier.STATIC, Modifier.STATIC);
            for (Method method : inner.getDeclaredMethods()) {
                for (String name : FACE) {
                    boolean same = name.startsWith(method.getName() + " ");
                    Calls.check(inner + " has its own names: " + method.getName(), same ? 1 : 0, 0);
                }
            }
            nested(inner);
        }
    }

    /** Reads the constant pool of a class file: its references to methods and fields of the library. */
    private static void namesOf(Class<?> type) throws IOException {
        try (InputStream file = type.getResourceAsStream("/" + type.getName() + ".class");
                DataInputStream in = new DataInputStream(file)) {
            in.readInt();
            in.readInt();
            int size = in.readUnsignedShort();
            String[] texts = new String[size];
            int[][] pairs = new int[size][];
            int[] tags = new int[size];
            for (int i = 1; i < size; i++) {
                tags[i] = in.readUnsignedByte();
                switch (tags[i]) {
                    case 1: texts[i] = in.readUTF(); break;
                    case 3: case 4: in.readInt(); break;
                    case 5: case 6: in.readLong(); i++; break;
                    case 7: case 8: case 16: pairs[i] = new int[] {in.readUnsignedShort()}; break;
                    case 9: case 10: case 11: case 12:
                        pairs[i] = new int[] {in.readUnsignedShort(), in.readUnsignedShort()}; break;
                    default: throw new IOException("tag " + tags[i]);
                }
            }
            for (int i = 1; i < size; i++) {
                if (tags[i] >= 9 && tags[i] <= 11) {
                    String owner = texts[pairs[pairs[i][0]][0]];
                    String name = texts[pairs[pairs[i][1]][0]];
                    boolean known = owner.startsWith("DarkVats") || owner.equals("java/lang/Object")
                        && name.equals("<init>") || owner.startsWith("[") && name.equals("clone");
                    Calls.check(type.getName() + " uses " + owner + "." + name, known ? 1 : 0, 1);
                }
            }
        }
    }
}
