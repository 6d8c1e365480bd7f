import java.io.IOException;
import java.lang.reflect.Method;
import java.lang.reflect.Modifier;
import java.net.URL;
import java.net.URLClassLoader;
import java.nio.charset.StandardCharsets;
import java.nio.file.Files;
import java.nio.file.Path;
import java.util.ArrayList;
import java.util.Comparator;
import java.util.List;
import java.util.regex.Matcher;
import java.util.regex.Pattern;
import java.util.stream.Stream;
import javax.tools.JavaCompiler;
import javax.tools.ToolProvider;

/** Compiles and runs the examples of README.md, and sees that it names every call of the face and every test. */
public final class ReadmeTest {
    private static final Check CHECK = new Check("ReadmeTest");
    private static final Pattern BLOCK = Pattern.compile("(?s)```java\n(.*?)```");
    private static final Pattern ANSWERED = Pattern.compile("(x\\.\\w+\\(.*?\\));\\s*// (-?\\d+|true|false|throws (\\w+))\\b.*");
    private static final Pattern ASKED = Pattern.compile("x\\.\\w+\\(.*");

    /** What the examples print answers by; a class of its own, since another loader's sees none of this package. */
    private static final String HEAD = """
        public final class ReadmeExamples {
            public static final java.util.List<String> WRONG = new java.util.ArrayList<>();
            interface Call { Object answer(); }
            static void due(String call, String want, Call asked) {
                String got;
                try {
                    got = String.valueOf(asked.answer());
                } catch (RuntimeException thrown) {
                    got = "throws " + thrown.getClass().getSimpleName();
                }
                if (!want.equals(got)) {
                    WRONG.add(call + " answered " + got + ", README.md has " + want);
                }
            }
        """;

    public static void main(String[] args) throws Exception {
        Path root = Path.of(args.length > 0 ? args[0] : ".");
        String readme = Files.readString(root.resolve("README.md"), StandardCharsets.UTF_8);
        namesAllCalls(readme);
        namesAllTests(readme, root.resolve("src/test/java"));
        examples(readme);
        CHECK.finish();
    }

    private static void namesAllCalls(String readme) {
        String table = readme.substring(Math.max(0, readme.indexOf("### All calls")));
        for (Method method : PencilUp.class.getDeclaredMethods()) {
            if (Modifier.isPublic(method.getModifiers())) {
                CHECK.is("README.md names " + method.getName(), true, table.contains("`" + method.getName() + "`"));
            }
        }
    }

    private static void namesAllTests(String readme, Path tests) throws IOException {
        try (Stream<Path> files = Files.list(tests)) {
            for (Path file : (Iterable<Path>) files::iterator) {
                String name = file.getFileName().toString();
                CHECK.is("README.md names " + name, true, readme.contains(name + "`"));
            }
        }
    }

    private static void examples(String readme) throws Exception {
        StringBuilder members = new StringBuilder();
        StringBuilder body = new StringBuilder();
        int answers = 0;
        Matcher block = BLOCK.matcher(readme);
        while (block.find()) {
            if (block.group(1).startsWith("static ")) {
                members.append(block.group(1));
                continue;
            }
            for (String line : block.group(1).split("\n")) {
                Matcher answered = ANSWERED.matcher(line);
                boolean is = answered.matches();
                answers += is ? 1 : 0;
                CHECK.is("an answer stands behind " + line, true, is || !ASKED.matcher(line).matches() || line.equals("x.image();"));
                body.append(is ? asDue(answered.group(1), answered.group(2)) : line).append('\n');
            }
        }
        CHECK.is("there are examples", true, answers > 0);
        String source = HEAD + members + "public static void main(String[] args) {\n" + body + "}\n}\n";
        for (String wrong : runs(source)) {
            CHECK.is(wrong, true, false);
        }
    }

    private static String asDue(String call, String want) {
        return "due(\"" + call.replace("\"", "\\\"") + "\", \"" + want + "\", () -> " + call + ");";
    }

    /** Compiles and runs the examples: what was not as they have it. */
    private static List<String> runs(String source) throws Exception {
        Path out = Files.createTempDirectory("readme");
        try {
            Path file = out.resolve("ReadmeExamples.java");
            Files.writeString(file, source, StandardCharsets.UTF_8);
            JavaCompiler compiler = ToolProvider.getSystemJavaCompiler();
            String path = System.getProperty("java.class.path");
            if (compiler.run(null, null, null, "-cp", path, "-d", out.toString(), file.toString()) != 0) {
                return List.of("the examples of README.md do not compile");
            }
            try (URLClassLoader loader = new URLClassLoader(new URL[] {out.toUri().toURL()})) {
                Class<?> examples = loader.loadClass("ReadmeExamples");
                examples.getMethod("main", String[].class).invoke(null, (Object) new String[0]);
                List<String> wrong = new ArrayList<>();
                for (Object one : (List<?>) examples.getField("WRONG").get(null)) {
                    wrong.add(String.valueOf(one));
                }
                return wrong;
            }
        } finally {
            remove(out);
        }
    }

    private static void remove(Path directory) throws IOException {
        try (Stream<Path> files = Files.walk(directory)) {
            for (Path file : (Iterable<Path>) files.sorted(Comparator.reverseOrder())::iterator) {
                Files.delete(file);
            }
        }
    }
}
