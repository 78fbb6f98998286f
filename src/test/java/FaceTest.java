import java.io.IOException;
import java.lang.reflect.Constructor;
import java.lang.reflect.Field;
import java.lang.reflect.Method;
import java.lang.reflect.Modifier;
import java.nio.file.Files;
import java.nio.file.Path;
import java.util.ArrayList;
import java.util.HashSet;
import java.util.List;
import java.util.Set;
import java.util.regex.Matcher;
import java.util.regex.Pattern;

/** The public face of the document's code block, and what LANGUAGE.md asks that a look at the text can tell. */
public final class FaceTest {
    private static final Path DOCUMENT = Path.of("../shared/DOC.md");
    private static final Path PROGRAM = Path.of("src/main/java/SpiceScale.java");
    private static final List<String> FORBIDDEN = List.of(
        "->", "::", "\\bfinally\\b", "\\bsynchronized\\b", "\\bassert\\b", "\\btry\\b", "\\bcatch\\b", "\\bvar\\b", "Exact\\(",
        "\\bSystem\\.(?!arraycopy)", "\\bThread\\b", "\\bObject\\b", "Random", "\\blong\\b.*nanoTime", "\\.getClass\\(",
        "hashCode", "toString", "printStackTrace", "static \\{", "\\bprotected\\b", "\\bimport (?!java\\.util\\.NoSuchElement)",
        "\"\\s*\\+", "\\+\\s*\"", "@", "while \\(true\\)", "for \\(;;\\)");

    private static int wrong = 0;

    public static void main(String[] args) throws IOException {
        String program = Files.readString(PROGRAM);
        signatures(Files.readString(DOCUMENT), program);
        members();
        forbidden(program);
        methods(program);
        System.out.println(wrong + " faults of the face and the language");
        if (wrong != 0) {
            System.exit(1);
        }
    }

    private static void fault(String text) {
        wrong++;
        System.out.println(text);
    }

    private static void signatures(String document, String program) {
        Matcher matcher = Pattern.compile("^    (public [^;]*);$", Pattern.MULTILINE).matcher(document);
        int count = 0;
        while (matcher.find()) {
            count++;
            if (!program.contains("\n    " + matcher.group(1) + " {\n")) {
                fault("the face lacks: " + matcher.group(1));
            }
        }
        Matcher lines = Pattern.compile("^(import .*;|public .*\\{)$", Pattern.MULTILINE).matcher(document);
        while (lines.find()) {
            if (!program.contains("\n" + lines.group(1) + "\n") && !program.startsWith(lines.group(1) + "\n")) {
                fault("the program lacks: " + lines.group(1));
            }
        }
        Matcher own = Pattern.compile("^    public .*", Pattern.MULTILINE).matcher(program);
        int ownCount = 0;
        while (own.find()) {
            ownCount++;
        }
        if (count != 39 || ownCount != count) {
            fault("the document has " + count + " signatures, the program " + ownCount);
        }
    }

    private static void members() {
        Set<String> publicNames = new HashSet<>();
        for (Method method : SpiceScale.class.getDeclaredMethods()) {
            if (Modifier.isPublic(method.getModifiers())) {
                publicNames.add(method.getName());
            } else if (!Modifier.isPrivate(method.getModifiers())) {
                fault("neither public nor private: " + method);
            }
        }
        for (Constructor<?> constructor : SpiceScale.class.getDeclaredConstructors()) {
            if (!Modifier.isPublic(constructor.getModifiers())) {
                fault("not public: " + constructor);
            }
        }
        List<Class<?>> classes = new ArrayList<>(List.of(SpiceScale.class.getDeclaredClasses()));
        for (Class<?> inside : classes) {
            if (!Modifier.isPrivate(inside.getModifiers()) || !Modifier.isStatic(inside.getModifiers())) {
                fault("not private and static: " + inside);
            }
        }
        classes.add(SpiceScale.class);
        for (Class<?> one : classes) {
            int fields = 0;
            for (Field field : one.getDeclaredFields()) {
                boolean isStatic = Modifier.isStatic(field.getModifiers());
                fields += isStatic ? 0 : 1;
                if (isStatic && !Modifier.isFinal(field.getModifiers()) || !Modifier.isPrivate(field.getModifiers())) {
                    fault("a field that is not private, or static and not final: " + field);
                }
            }
            if (fields > 20) {
                fault(one + " has " + fields + " fields");
            }
            for (Method method : one.getDeclaredMethods()) {
                if (!Modifier.isPublic(method.getModifiers()) && publicNames.contains(method.getName())) {
                    fault("a private method with a public one's name: " + method);
                }
                if (method.getParameterCount() > 7) {
                    fault("too many parameters: " + method);
                }
            }
        }
        if (classes.size() > 12) {
            fault("too many classes: " + classes.size());
        }
    }

    private static void forbidden(String program) {
        String code = program.replaceAll("(?s)/\\*.*?\\*/", "").replaceAll("//.*", "");
        for (String pattern : FORBIDDEN) {
            Matcher matcher = Pattern.compile(pattern).matcher(code);
            if (matcher.find()) {
                fault("not in the language: " + matcher.group());
            }
        }
        for (int i = 0; i < program.length(); i++) {
            if (program.charAt(i) > 126) {
                fault("a sign beyond 126: " + (int) program.charAt(i));
            }
        }
    }

    private static void methods(String program) {
        String[] lines = program.split("\n");
        int start = -1;
        for (int i = 0; i < lines.length; i++) {
            if (lines[i].matches("( {4}| {8})(public|private) .*\\) (throws .*)?\\{")) {
                start = i;
            } else if (lines[i].matches("( {4}| {8})\\}") && start >= 0) {
                if (i - start > 60) {
                    fault("a long method: " + lines[start].trim());
                }
                start = -1;
            }
        }
    }
}
