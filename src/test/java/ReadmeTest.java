import java.io.IOException;
import java.lang.reflect.Method;
import java.net.URL;
import java.net.URLClassLoader;
import java.nio.file.Files;
import java.nio.file.Path;
import java.util.List;
import java.util.regex.Matcher;
import java.util.regex.Pattern;
import java.util.stream.Stream;
import javax.tools.ToolProvider;

/** What README.md says of the class and of its tests: its calls are compiled and answer as it says, and it names each test. */
public final class ReadmeTest {
    private static final Checks C = new Checks("ReadmeTest");
    private static final Pattern CALL = Pattern.compile(" {4}(int \\w+ = )?(home\\..*);\\s+// (-?\\d+|true|false)(:.*)?");

    public static void main(String[] args) throws Exception {
        List<String> readme = Files.readAllLines(Path.of("README.md"));
        String example = example(readme);
        Path room = Files.createTempDirectory("readme");
        try {
            for (Object answer : (List<?>) answers(example, room)) {
                Object[] three = (Object[]) answer;
                C.due((String) three[0] + " " + three[1] + " " + three[2], three[1].equals(three[2]) ? 1 : 0, 1);
            }
        } finally {
            clear(room);
        }
        names(String.join("\n", readme));
        C.end();
    }

    /** The calls in the order of the page: each as text, what it answered, what the page says. */
    private static String example(List<String> readme) {
        StringBuilder body = new StringBuilder();
        int calls = 0;
        for (String line : readme) {
            Matcher call = CALL.matcher(line);
            if (call.matches()) {
                String name = "answer" + calls++;
                body.append("var ").append(name).append(" = ").append(call.group(2)).append(";\n");
                body.append("told.add(new Object[] {").append(quoted(call.group(2))).append(", \"\" + ").append(name)
                        .append(", ").append(quoted(call.group(3))).append("});\n");
                if (call.group(1) != null) {
                    body.append(call.group(1)).append(name).append(";\n");
                }
            } else if (line.startsWith("    OilHome ")) {
                body.append(line).append('\n');
            } else {
                C.due("a call without an answer: " + line, line.startsWith("    ") && line.contains("home") ? 1 : 0, 0);
            }
        }
        C.due("calls on the page", calls > 20 ? 1 : 0, 1);
        return "public final class Example { public static java.util.List<Object> calls() {\n"
                + "java.util.List<Object> told = new java.util.ArrayList<>();\n" + body + "return told; } }\n";
    }

    private static String quoted(String text) {
        return '"' + text.replace("\\", "\\\\").replace("\"", "\\\"") + '"';
    }

    private static Object answers(String example, Path room) throws Exception {
        Path source = Files.writeString(room.resolve("Example.java"), example);
        String classes = System.getProperty("java.class.path");
        int failed = ToolProvider.getSystemJavaCompiler().run(null, null, null, "-cp", classes, "-d", room.toString(),
                source.toString());
        C.due("the page's calls compile", failed, 0);
        if (failed != 0) {
            return List.of();
        }
        try (URLClassLoader loader = new URLClassLoader(new URL[] {room.toUri().toURL()})) {
            Method calls = loader.loadClass("Example").getMethod("calls");
            return calls.invoke(null);
        }
    }

    private static void clear(Path room) throws IOException {
        try (Stream<Path> files = Files.list(room)) {
            for (Path file : (Iterable<Path>) files::iterator) {
                Files.delete(file);
            }
        }
        Files.delete(room);
    }

    private static void names(String readme) throws IOException {
        try (Stream<Path> files = Files.list(Path.of("src/test/java"))) {
            for (Path file : (Iterable<Path>) files.sorted()::iterator) {
                String name = file.getFileName().toString().replace(".java", "");
                C.due("the page names " + name, readme.contains("`" + name + "`") ? 1 : 0, 1);
            }
        }
        for (Matcher path = Pattern.compile("`?((src|\\.ci|\\.\\./shared)/[\\w./]+)").matcher(readme); path.find();) {
            C.due("there is " + path.group(1), Files.exists(Path.of(path.group(1))) ? 1 : 0, 1);
        }
        for (Matcher test = Pattern.compile("`(\\w+Test)`").matcher(readme); test.find();) {
            Path file = Path.of("src/test/java", test.group(1) + ".java");
            C.due("there is " + file, Files.exists(file) ? 1 : 0, 1);
        }
        C.due(".ci/run can be run", Files.isExecutable(Path.of(".ci/run")) ? 1 : 0, 1);
    }
}
