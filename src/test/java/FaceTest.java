import java.io.IOException;
import java.lang.reflect.Constructor;
import java.lang.reflect.Field;
import java.lang.reflect.Method;
import java.lang.reflect.Modifier;
import java.nio.file.Files;
import java.nio.file.Path;
import java.util.ArrayList;
import java.util.Arrays;
import java.util.List;
import java.util.TreeSet;
import java.util.stream.Collectors;

/** The public face is that of the document, no more and no less, and the source keeps to rules that can be looked up. */
public final class FaceTest {
    private static final String[] METHODS = {
        "int feed(long, int) IllegalArgumentException",
        "int wipe()",
        "int at(int) IndexOutOfBoundsException",
        "int leaf() IllegalStateException, IllegalArgumentException",
        "int change(int, int) IllegalStateException, IllegalArgumentException",
        "int block(int, long) IllegalStateException, IllegalArgumentException",
        "long digest(int) IndexOutOfBoundsException, IllegalStateException",
        "int vote(int, int, long) IllegalStateException, IllegalArgumentException",
        "boolean sent(int) IndexOutOfBoundsException, IllegalStateException",
        "int certify(long, int) IllegalStateException, IllegalArgumentException",
        "int version(int) IllegalStateException, IllegalArgumentException",
        "long slot(int, int) IllegalStateException, IllegalArgumentException",
        "int page(long) IllegalStateException",
        "int byteOf(int, int) IndexOutOfBoundsException, IllegalStateException",
        "boolean named(int) IndexOutOfBoundsException, IllegalStateException",
        "int prune(int) IllegalStateException, IllegalArgumentException",
        "int out(int) IllegalStateException, IllegalArgumentException",
        "int in() IllegalStateException",
        "void cut(int) IllegalArgumentException",
        "boolean off()",
        "int open()",
        "int poke(int, int) IndexOutOfBoundsException, IllegalStateException, IllegalArgumentException",
        "int byteAt(int) IndexOutOfBoundsException",
        "int asked(int) IllegalStateException",
        "int mend(int) IllegalStateException, IllegalArgumentException",
        "int told(int) IllegalArgumentException",
    };
    private static final String[] CONSTANTS = {
        "NONE -1", "FULL -2", "NEED -3", "OFF -4", "LOST -5", "UNKNOWN -6", "LATE -7", "WEAK -8", "OTHER -9", "WRONG -10",
    };
    private static final String[] FORBIDDEN = {
        "->", "::", "catch", "finally", "synchronized", "assert ", "package ", "static {", "Exact(", "hashCode", "equals(",
        "toString", "protected", "volatile", "System.out", "System.nano", "System.current", "Random", "getMessage",
    };

    public static void main(String[] args) throws Exception {
        Class<?> face = BlockLog.class;
        Due.is("final", true, Modifier.isFinal(face.getModifiers()));
        sameSet("methods", Arrays.asList(METHODS), methodsOf(face));
        sameSet("constants", Arrays.asList(CONSTANTS), constantsOf(face));
        Constructor<?>[] made = face.getDeclaredConstructors();
        Due.is("constructors", 1, made.length);
        Due.is("its argument", true, Arrays.equals(made[0].getParameterTypes(), new Class<?>[] {int.class}));
        for (Class<?> inside : face.getDeclaredClasses()) {
            Due.is(inside + " is static", true, Modifier.isStatic(inside.getModifiers()));
            Due.is(inside + " is not public", false, Modifier.isPublic(inside.getModifiers()));
        }
        Path source = Path.of(args[0], "src", "main", "java", "BlockLog.java");
        lookAtSource(source);
        lookAtSizes(face);
        lookAtLengths(source);
        Due.end();
    }

    /** Rule 11. */
    private static void lookAtSizes(Class<?> face) {
        List<Class<?>> all = new ArrayList<>(Arrays.asList(face.getDeclaredClasses()));
        all.add(face);
        Due.is("no more than 12 classes", true, all.size() <= 12);
        for (Class<?> one : all) {
            long fields = Arrays.stream(one.getDeclaredFields()).filter(f -> !Modifier.isStatic(f.getModifiers())).count();
            Due.is(one + " has no more than 20 fields", true, fields <= 20);
            for (Method method : one.getDeclaredMethods()) {
                Due.is(method + " takes no more than seven", true, method.getParameterCount() <= 7);
            }
        }
    }

    /** Rule 11: a method ends with the brace that stands as far in as its first line. */
    private static void lookAtLengths(Path source) throws IOException {
        List<String> lines = Files.readAllLines(source);
        int methods = 0;
        for (int i = 0; i < lines.size(); i++) {
            String line = lines.get(i);
            String margin = line.substring(0, line.length() - line.stripLeading().length());
            boolean starts = (margin.length() == 4 || margin.length() == 8) && line.matches(" +[a-zA-Z].*\\) (throws .*)?\\{");
            if (starts && !line.strip().matches("(if|for|while|switch|else) .*")) {
                int end = i + lines.subList(i, lines.size()).indexOf(margin + "}");
                Due.is("no more than sixty lines: " + line.strip(), true, end - i < 60);
                methods++;
            }
        }
        Due.is("methods were found", true, methods > 100);
    }

    private static List<String> methodsOf(Class<?> face) {
        TreeSet<String> names = new TreeSet<>();
        List<String> found = new ArrayList<>();
        for (Method method : face.getDeclaredMethods()) {
            if (!Modifier.isPrivate(method.getModifiers())) {
                Due.is(method.getName() + " is public", true, Modifier.isPublic(method.getModifiers()));
                names.add(method.getName());
                String types = names(method.getParameterTypes());
                String thrown = names(method.getExceptionTypes());
                found.add((method.getReturnType() + " " + method.getName() + "(" + types + ") " + thrown).trim());
            }
        }
        for (Method method : face.getDeclaredMethods()) {
            boolean hidden = Modifier.isPrivate(method.getModifiers());
            Due.is(method.getName() + " bears a public name", false, hidden && names.contains(method.getName()));
        }
        return found;
    }

    private static String names(Class<?>[] types) {
        return Arrays.stream(types).map(Class::getSimpleName).collect(Collectors.joining(", "));
    }

    private static List<String> constantsOf(Class<?> face) throws IllegalAccessException {
        List<String> found = new ArrayList<>();
        for (Field field : face.getDeclaredFields()) {
            int modifiers = field.getModifiers();
            if (Modifier.isStatic(modifiers)) {
                Due.is(field + " is final", true, Modifier.isFinal(modifiers));
            }
            if (!Modifier.isPrivate(modifiers)) {
                Due.is(field + " is a public constant", true, Modifier.isPublic(modifiers) && Modifier.isStatic(modifiers));
                found.add(field.getName() + " " + field.getInt(null));
            }
        }
        return found;
    }

    private static void sameSet(String what, List<String> want, List<String> got) {
        TreeSet<String> lacking = new TreeSet<>(want);
        lacking.removeAll(got);
        TreeSet<String> more = new TreeSet<>(got);
        more.removeAll(want);
        Due.is(what + " that lack: " + lacking, 0, lacking.size());
        Due.is(what + " that are too much: " + more, 0, more.size());
    }

    private static void lookAtSource(Path source) throws IOException {
        for (String line : Files.readAllLines(source)) {
            String code = line.strip();
            boolean comment = code.startsWith("/*") || code.startsWith("*") || code.startsWith("//");
            for (String word : FORBIDDEN) {
                Due.is("'" + word + "' in: " + code, false, !comment && code.contains(word));
            }
            boolean brings = code.startsWith("import ");
            Due.is("import in: " + code, false, brings && !code.equals("import java.util.ArrayList;"));
        }
    }
}
