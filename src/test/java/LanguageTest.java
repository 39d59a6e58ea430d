import java.io.DataInputStream;
import java.io.IOException;
import java.io.InputStream;
import java.lang.reflect.Executable;
import java.lang.reflect.Field;
import java.lang.reflect.Modifier;
import java.util.ArrayList;
import java.util.List;
import java.util.Set;
import java.util.TreeSet;

/**
 * What of ../shared/LANGUAGE.md can be read from the compiled classes: which functions of the library they call, with
 * which types, what their static fields are, and how many parameters, fields and classes there are.
 */
public final class LanguageTest {
    // Functions over doubles are not among these: with doubles there are only signs of arithmetic, comparisons, casts.
    private static final Set<String> LIBRARY = Set.of(
        "java/lang/Object.<init>()V",
        "java/lang/String.charAt(I)C",
        "java/lang/String.length()I",
        "java/lang/Math.max(II)I",
        "java/lang/System.arraycopy(Ljava/lang/Object;ILjava/lang/Object;II)V",
        "java/util/Arrays.copyOf([II)[I",
        "java/util/Arrays.copyOf([JI)[J",
        "java/util/Arrays.fill([II)V",
        "java/util/Arrays.fill([JJ)V",
        "java/util/Arrays.fill([IIII)V",
        "java/util/Arrays.fill([JIIJ)V");
    private static final Set<String> EXCEPTIONS = Set.of(
        "java/lang/IllegalStateException",
        "java/lang/IllegalArgumentException",
        "java/lang/IndexOutOfBoundsException",
        "java/lang/ArithmeticException",
        "java/lang/UnsupportedOperationException",
        "java/util/NoSuchElementException",
        "java/lang/RuntimeException");
    private static final Set<Class<?>> CONSTANTS =
        Set.of(int.class, long.class, boolean.class, char.class, String.class, int[].class, long[].class, char[].class);
    private static final int MOST_PARAMETERS = 7;
    private static final int MOST_FIELDS = 20;
    private static final int MOST_CLASSES = 13;

    // Kinds of entries in a class file's pool.
    private static final int UTF8 = 1;
    private static final int LONG = 5;
    private static final int DOUBLE = 6;
    private static final int CLASS = 7;
    private static final int FIELD = 9;
    private static final int METHOD = 10;
    private static final int INTERFACE_METHOD = 11;
    private static final int NAME_AND_TYPE = 12;
    private static final int HANDLE = 15;
    private static final int DYNAMIC = 17;
    private static final int INVOKE_DYNAMIC = 18;

    private final int[] tags;
    private final int[] firsts;
    private final int[] seconds;
    private final String[] texts;

    private LanguageTest(DataInputStream in) throws IOException {
        in.skipNBytes(8);
        int count = in.readUnsignedShort();
        tags = new int[count];
        firsts = new int[count];
        seconds = new int[count];
        texts = new String[count];
        for (int i = 1; i < count; i++) {
            readEntry(in, i);
            i += tags[i] == LONG || tags[i] == DOUBLE ? 1 : 0;
        }
    }

    private void readEntry(DataInputStream in, int i) throws IOException {
        tags[i] = in.readUnsignedByte();
        switch (tags[i]) {
            case UTF8 -> texts[i] = in.readUTF();
            case LONG, DOUBLE -> in.skipNBytes(8);
            case FIELD, METHOD, INTERFACE_METHOD, NAME_AND_TYPE, DYNAMIC, INVOKE_DYNAMIC -> {
                firsts[i] = in.readUnsignedShort();
                seconds[i] = in.readUnsignedShort();
            }
            case HANDLE -> in.skipNBytes(3);
            case CLASS, 8, 16, 19, 20 -> firsts[i] = in.readUnsignedShort();
            case 3, 4 -> in.skipNBytes(4);
            default -> throw new IOException("an entry of an unknown kind: " + tags[i]);
        }
    }

    /** What is called or used of classes that are not the program's own. */
    private Set<String> used() {
        Set<String> used = new TreeSet<>();
        for (int i = 1; i < tags.length; i++) {
            if (tags[i] == DYNAMIC || tags[i] == INVOKE_DYNAMIC) {
                used.add("a lambda, a method reference or a text joined by +");
            }
            if (tags[i] == FIELD || tags[i] == METHOD || tags[i] == INTERFACE_METHOD) {
                String owner = texts[firsts[firsts[i]]];
                int name = seconds[i];
                if (!owner.startsWith("Reifytown")) {
                    used.add(owner + (tags[i] == FIELD ? " field " : ".") + texts[firsts[name]] + texts[seconds[name]]);
                }
            }
        }
        return used;
    }

    private static boolean isListed(String used) {
        int dot = used.indexOf(".<init>");
        String made = dot < 0 ? "" : used.substring(dot);
        boolean isException = made.equals(".<init>()V") || made.equals(".<init>(Ljava/lang/String;)V");
        return LIBRARY.contains(used) || isException && EXCEPTIONS.contains(used.substring(0, dot));
    }

    private static Set<String> unlisted(Class<?> checked) throws IOException {
        try (InputStream in = checked.getResourceAsStream(checked.getName() + ".class")) {
            Set<String> used = new LanguageTest(new DataInputStream(in)).used();
            used.removeIf(LanguageTest::isListed);
            return used;
        }
    }

    private static void checkFields(Class<?> checked) {
        int fields = 0;
        for (Field field : checked.getDeclaredFields()) {
            int is = field.getModifiers();
            String what = checked.getName() + "." + field.getName();
            if (Modifier.isStatic(is)) {
                Checks.same(what + " is final", Modifier.isFinal(is), true);
                Checks.same(what + " is a constant", CONSTANTS.contains(field.getType()), true);
            } else {
                fields++;
            }
        }
        Checks.same(checked.getName() + " has some twenty fields", fields <= MOST_FIELDS, true);
    }

    private static void checkParameters(Class<?> checked) {
        List<Executable> all = new ArrayList<>(List.of(checked.getDeclaredMethods()));
        all.addAll(List.of(checked.getDeclaredConstructors()));
        for (Executable one : all) {
            String what = checked.getName() + "." + one.getName();
            Checks.same(what + " takes few parameters", one.getParameterCount() <= MOST_PARAMETERS, true);
        }
    }

    public static void main(String[] args) throws IOException {
        List<Class<?>> all = new ArrayList<>(List.of(Reifytown.class.getDeclaredClasses()));
        all.add(Reifytown.class);
        Checks.same("there are some twelve classes", all.size() <= MOST_CLASSES, true);
        for (Class<?> one : all) {
            Checks.same(one.getName() + " uses of the library, beside what is listed", unlisted(one), Set.of());
            checkFields(one);
            checkParameters(one);
        }
        Checks.close("LanguageTest");
    }
}
