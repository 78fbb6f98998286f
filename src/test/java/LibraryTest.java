import java.io.DataInputStream;
import java.io.IOException;
import java.util.ArrayList;
import java.util.List;
import java.util.Set;

/** What the compiled program uses of the library: no more than rule 4 of LANGUAGE.md lists, and no lambda. */
public final class LibraryTest {
    private static final Set<String> METHODS = Set.of(
        "java/lang/Object.<init>", "java/lang/System.arraycopy", "java/lang/Math.min", "java/lang/Math.max", "java/lang/Math.abs",
        "java/lang/String.length", "java/lang/String.charAt", "java/lang/StringBuilder.<init>",
        "java/lang/StringBuilder.append", "java/lang/StringBuilder.length", "java/lang/StringBuilder.charAt",
        "java/lang/StringBuilder.setLength", "java/lang/IllegalStateException.<init>",
        "java/lang/IllegalArgumentException.<init>", "java/lang/IndexOutOfBoundsException.<init>",
        "java/lang/ArithmeticException.<init>", "java/lang/UnsupportedOperationException.<init>",
        "java/util/NoSuchElementException.<init>");

    private static int wrong = 0;
    private static int checked = 0;

    public static void main(String[] args) throws IOException {
        List<Class<?>> classes = new ArrayList<>(List.of(SpiceScale.class.getDeclaredClasses()));
        classes.add(SpiceScale.class);
        for (Class<?> one : classes) {
            String file = one.getName() + ".class";
            try (DataInputStream in = new DataInputStream(SpiceScale.class.getResourceAsStream(file))) {
                look(file, in);
            }
        }
        System.out.println(checked + " uses of the library looked at, " + wrong + " not in the language");
        if (wrong != 0 || checked == 0) {
            System.exit(1);
        }
    }

    private static void fault(String text) {
        wrong++;
        System.out.println(text);
    }

    /** Reads the constants of a class file; each is a text, a number, or points to others by their numbers. */
    private static void look(String file, DataInputStream in) throws IOException {
        in.readInt();
        in.readInt();
        int count = in.readUnsignedShort();
        int[] tags = new int[count];
        int[] first = new int[count];
        int[] second = new int[count];
        String[] texts = new String[count];
        for (int i = 1; i < count; i++) {
            tags[i] = in.readUnsignedByte();
            switch (tags[i]) {
                case 1: texts[i] = in.readUTF(); break;
                case 3: case 4: in.readInt(); break;
                case 5: case 6:
                    in.readLong();
                    i++;
                    break;
                case 7: case 8: case 16: case 19: case 20: first[i] = in.readUnsignedShort(); break;
                case 9: case 10: case 11: case 12:
                    first[i] = in.readUnsignedShort();
                    second[i] = in.readUnsignedShort();
                    break;
                default: throw new IOException(file + " has a constant that is no field, method or number: " + tags[i]);
            }
        }
        for (int i = 1; i < count; i++) {
            if (tags[i] >= 9 && tags[i] <= 11) {
                String owner = texts[first[first[i]]];
                String name = texts[first[second[i]]];
                if (!owner.startsWith("SpiceScale")) {
                    checked++;
                    if (tags[i] == 9 || !METHODS.contains(owner + "." + name)) {
                        fault(file + " uses " + owner + "." + name);
                    }
                }
            }
        }
    }
}
