import java.io.IOException;
import java.lang.reflect.Constructor;
import java.lang.reflect.Executable;
import java.lang.reflect.Field;
import java.lang.reflect.Method;
import java.lang.reflect.Modifier;
import java.nio.charset.StandardCharsets;
import java.nio.file.Files;
import java.nio.file.Path;
import java.util.Arrays;
import java.util.List;
import java.util.Set;
import java.util.TreeSet;
import java.util.regex.Matcher;
import java.util.regex.Pattern;
import java.util.stream.Collectors;

/** What of LANGUAGE.md can be seen in the source and by reflection, and that the face is the document's. */
public final class LanguageTest {
    private static final Check CHECK = new Check("LanguageTest");

    public static void main(String[] args) throws IOException {
        Path root = Path.of(args.length > 0 ? args[0] : ".");
        String source = Files.readString(root.resolve("src/main/java/PencilUp.java"), StandardCharsets.UTF_8);
        String document = Files.readString(root.resolve("../shared/DOC.md"), StandardCharsets.UTF_8);
        words(source);
        library(source);
        methodLengths(source);
        face(document);
        classes();
        CHECK.finish();
    }

    private static String bare(String source) {
        return source.replaceAll("(?s)/\\*.*?\\*/", " ").replaceAll("//[^\n]*", " ").replaceAll("\"[^\"\n]*\"", "\"\"");
    }

    private static void words(String source) {
        CHECK.is("signs of the source are 1 to 127", 0, source.chars().filter(c -> c > 127).count());
        String code = bare(source);
        for (String word : List.of("package", "try", "catch", "finally", "synchronized", "assert", "protected", "volatile",
            "native", "record", "lambda", "Random", "Thread", "File", "nanoTime", "currentTimeMillis", "getClass", "hashCode", "toString")) {
            CHECK.is("no " + word, false, Pattern.compile("\\b" + word + "\\b").matcher(code).find());
        }
        CHECK.is("no lambda, no method reference", false, code.contains("->") || code.contains("::"));
        CHECK.is("no static initialiser", false, Pattern.compile("static\\s*\\{").matcher(code).find());
        CHECK.is("no joining by +", false, Pattern.compile("\"\\s*\\+|\\+\\s*\"").matcher(code).find());
    }

    private static void library(String source) {
        String code = bare(source);
        see(code, "import ([\\w.]+);", Set.of("java.util.Arrays", "java.util.NoSuchElementException"));
        see(code, "\\bMath\\.(\\w+)", Set.of("min", "max", "abs", "floorDiv", "floorMod"));
        see(code, "\\bInteger\\.(\\w+)", Set.of("bitCount", "compare", "MAX_VALUE", "MIN_VALUE"));
        see(code, "\\bArrays\\.(\\w+)", Set.of("copyOf", "copyOfRange", "fill", "java"));
        see(code, "\\bSystem\\.(\\w+)", Set.of("arraycopy"));
        see(code, "throw new (\\w+)\\(", Set.of("IllegalStateException", "IllegalArgumentException",
            "IndexOutOfBoundsException", "UnsupportedOperationException", "NoSuchElementException"));
        CHECK.is("throw only what is new", false, Pattern.compile("\\bthrow\\s+(?!new)").matcher(code).find());
    }

    private static void see(String code, String pattern, Set<String> allowed) {
        Matcher found = Pattern.compile(pattern).matcher(code);
        while (found.find()) {
            CHECK.is(found.group(), true, allowed.contains(found.group(1)));
        }
    }

    private static void methodLengths(String source) {
        int begin = -1;
        String[] lines = source.split("\n");
        for (int k = 0; k < lines.length; k++) {
            if (lines[k].matches("( {4}| {8})\\S.*\\) (throws .*)?\\{")) {
                begin = k;
            }
            if (begin >= 0 && lines[k].equals(lines[begin].replaceAll("\\S.*", "") + "}")) {
                CHECK.is("sixty lines at most: " + lines[begin].trim(), true, k - begin < 60);
                begin = -1;
            }
        }
    }

    private static String told(Executable member, String answer) {
        String parameters = Arrays.stream(member.getParameterTypes()).map(Class::getSimpleName).collect(Collectors.joining(","));
        String thrown = Arrays.stream(member.getExceptionTypes()).map(Class::getSimpleName).collect(Collectors.joining(","));
        return answer + "(" + parameters + ")" + thrown;
    }

    private static void face(String document) {
        Set<String> wants = new TreeSet<>();
        Matcher found = Pattern.compile("\n    public (?!static)([\\w ]+)\\(([^)]*)\\)(?: throws ([\\w, ]+))?;").matcher(document);
        while (found.find()) {
            String parameters = found.group(2).replaceAll("(\\w+) \\w+", "$1").replace(" ", "");
            wants.add(found.group(1) + "(" + parameters + ")" + (found.group(3) == null ? "" : found.group(3).replace(" ", "")));
        }
        Set<String> has = new TreeSet<>();
        for (Method method : PencilUp.class.getDeclaredMethods()) {
            if (!Modifier.isPrivate(method.getModifiers())) {
                has.add(told(method, method.getReturnType().getSimpleName() + " " + method.getName()));
                CHECK.is("public and of an object: " + method, Modifier.PUBLIC, method.getModifiers());
            }
        }
        for (Constructor<?> constructor : PencilUp.class.getDeclaredConstructors()) {
            has.add(told(constructor, "PencilUp"));
        }
        CHECK.is("the face has " + wants.size(), 58, wants.size());
        for (String want : wants) {
            CHECK.is("the face has " + want, true, has.contains(want));
        }
        for (String one : has) {
            CHECK.is("the document has " + one, true, wants.contains(one));
        }
        CHECK.is("the class is public and final", Modifier.PUBLIC | Modifier.FINAL, PencilUp.class.getModifiers());
        for (Field field : PencilUp.class.getDeclaredFields()) {
            boolean constant = field.getName().equals("NONE");
            CHECK.is("private but for NONE: " + field, !constant, Modifier.isPrivate(field.getModifiers()));
        }
    }

    private static void classes() {
        Set<String> faceNames = new TreeSet<>();
        for (Method method : PencilUp.class.getMethods()) {
            faceNames.add(method.getName());
        }
        Class<?>[] inside = PencilUp.class.getDeclaredClasses();
        CHECK.is("twelve classes at most, not " + (inside.length + 1), true, inside.length < 12);
        for (Class<?> one : inside) {
            CHECK.is("static: " + one, true, Modifier.isStatic(one.getModifiers()));
            CHECK.is("not public: " + one, false, Modifier.isPublic(one.getModifiers()));
            members(one, faceNames);
        }
        members(PencilUp.class, Set.of());
    }

    private static void members(Class<?> one, Set<String> faceNames) {
        int fields = 0;
        for (Field field : one.getDeclaredFields()) {
            boolean isStatic = Modifier.isStatic(field.getModifiers());
            fields += isStatic ? 0 : 1;
            if (isStatic) {
                CHECK.is("a constant: " + field, true, Modifier.isFinal(field.getModifiers()) && field.getType().isPrimitive());
            }
        }
        CHECK.is("twenty fields at most: " + one, true, fields <= 20);
        for (Method method : one.getDeclaredMethods()) {
            CHECK.is("seven parameters at most: " + method, true, method.getParameterCount() <= 7);
            CHECK.is("no name of the face: " + method, false, faceNames.contains(method.getName()));
        }
    }
}
