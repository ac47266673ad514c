import java.io.IOException;
import java.net.URL;
import java.net.URLClassLoader;
import java.nio.file.Files;
import java.nio.file.Path;
import java.util.ArrayList;
import java.util.Comparator;
import java.util.List;
import java.util.regex.Matcher;
import java.util.regex.Pattern;
import java.util.stream.Stream;
import javax.tools.ToolProvider;

/** The examples of README.md answer what it says, and it tells of every call and every test. */
public final class ReadmeTest {
    private static final Pattern ANSWERED = Pattern.compile("(?:(\\w+ \\w+) = )?(.+);\\s+// = (-?\\w+).*");
    private static final Pattern THROWING = Pattern.compile("(.+);\\s+// throws (\\w+).*");

    public static void main(String[] args) throws Exception {
        List<String> readme = Files.readAllLines(Path.of(args[0], "README.md"));
        Path place = Files.createTempDirectory("readme");
        try {
            List<List<String>> examples = examplesOf(readme);
            Due.is("examples", true, examples.size() > 2);
            for (int i = 0; i < examples.size(); i++) {
                for (String wrong : run(place, "Example" + i, examples.get(i))) {
                    Due.is("README.md: " + wrong, 0, 1);
                }
                Due.is("example " + i + " was run", true, true);
            }
        } finally {
            remove(place);
        }
        tellsAll(String.join("\n", readme), Path.of(args[0], "src", "test", "java"));
        Due.end();
    }

    private static List<List<String>> examplesOf(List<String> readme) {
        List<List<String>> examples = new ArrayList<>();
        boolean inside = false;
        for (String line : readme) {
            if (line.equals("```java")) {
                examples.add(new ArrayList<>());
                inside = true;
            } else if (line.equals("```")) {
                inside = false;
            } else if (inside) {
                examples.get(examples.size() - 1).add(line);
            }
        }
        return examples;
    }

    private static List<String> run(Path place, String name, List<String> example) throws Exception {
        Path source = place.resolve(name + ".java");
        Files.write(source, program(name, example));
        String classes = System.getProperty("java.class.path");
        int failed = ToolProvider.getSystemJavaCompiler()
            .run(null, null, null, "-cp", classes, "-d", place.toString(), source.toString());
        List<String> wrong = new ArrayList<>();
        if (failed != 0) {
            wrong.add("an example does not compile");
            return wrong;
        }
        try (URLClassLoader loader = new URLClassLoader(new URL[] {place.toUri().toURL()})) {
            loader.loadClass(name).getMethod("run", List.class).invoke(null, wrong);
        }
        return wrong;
    }

    private static List<String> program(String name, List<String> example) {
        List<String> lines = new ArrayList<>();
        lines.add("public final class " + name + " {");
        lines.add("static void due(java.util.List<String> wrong, String line, Object want, Object got) {");
        lines.add("if (!want.equals(got)) { wrong.add(line + \" .. answered \" + got); } }");
        lines.add("public static void run(java.util.List<String> wrong) {");
        for (String line : example) {
            lines.add(checked(line));
        }
        lines.add("} }");
        return lines;
    }

    private static String checked(String line) {
        String said = "\"" + line.strip() + "\"";
        Matcher throwing = THROWING.matcher(line);
        if (throwing.matches()) {
            return "try { due(wrong, " + said + ", \"\", " + throwing.group(1) + "); } catch (" + throwing.group(2) + " e) { }";
        }
        Matcher answered = ANSWERED.matcher(line);
        if (!answered.matches()) {
            return line;
        }
        String want = answered.group(3).matches("[A-Z]+") ? "BlockLog." + answered.group(3) : answered.group(3);
        if (answered.group(1) == null) {
            return "due(wrong, " + said + ", " + want + ", " + answered.group(2) + ");";
        }
        String made = answered.group(1).replaceFirst("\\w+ ", "");
        return answered.group(1) + " = " + answered.group(2) + "; due(wrong, " + said + ", " + want + ", " + made + ");";
    }

    private static void tellsAll(String readme, Path tests) throws IOException {
        for (java.lang.reflect.Method method : BlockLog.class.getMethods()) {
            if (method.getDeclaringClass() == BlockLog.class) {
                Due.is("README.md tells of " + method.getName() + "()", true, readme.contains("`" + method.getName() + "("));
            }
        }
        try (Stream<Path> files = Files.list(tests)) {
            files.map(file -> file.getFileName().toString()).filter(file -> file.endsWith("Test.java"))
                .map(file -> "`" + file.replace(".java", "") + "`")
                .forEach(test -> Due.is("README.md tells of " + test, true, readme.contains(test)));
        }
    }

    private static void remove(Path place) throws IOException {
        try (Stream<Path> files = Files.walk(place)) {
            for (Path file : files.sorted(Comparator.reverseOrder()).toList()) {
                Files.delete(file);
            }
        }
    }
}
