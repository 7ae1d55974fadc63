import java.io.IOException;
import java.lang.reflect.Field;
import java.lang.reflect.Method;
import java.lang.reflect.Modifier;
import java.net.URL;
import java.net.URLClassLoader;
import java.nio.file.Files;
import java.nio.file.Path;
import java.util.ArrayList;
import java.util.List;
import java.util.Set;
import java.util.TreeSet;
import java.util.regex.Matcher;
import java.util.regex.Pattern;
import java.util.stream.Stream;
import javax.tools.ToolProvider;

/** What README.md says is so: the answers in its examples, and the names that it tells. */
public final class ReadmeTest {
    private static final Pattern EXAMPLE = Pattern.compile("```java\n(.*?)```", Pattern.DOTALL);
    private static final Pattern ANSWERED = Pattern.compile("(table\\..*);\\s*// (-?\\d+)(:.*)?");
    private static final Pattern CLASS_NAME = Pattern.compile("`([A-Z][A-Za-z]*)`");

    public static void main(String[] args) throws Exception {
        String readme = Files.readString(Path.of("README.md"));
        examples(readme);
        calls(readme);
        constants(readme);
        tests(readme, Path.of("src/test/java"));
        classesInside(readme);
        Due.finish();
    }

    /** The examples are one program, from the first to the last; each call in it tells its answer. */
    private static void examples(String readme) throws Exception {
        List<String> calls = new ArrayList<>();
        List<Integer> due = new ArrayList<>();
        StringBuilder program = new StringBuilder("public final class Example {\n"
                + "public static int[] answers() {\nint[] answers = new int[1000];\n");
        Matcher example = EXAMPLE.matcher(readme);
        while (example.find()) {
            for (String line : example.group(1).split("\n")) {
                Matcher answered = ANSWERED.matcher(line);
                if (answered.matches()) {
                    program.append("answers[" + calls.size() + "] = ").append(answered.group(1)).append(";\n");
                    calls.add(answered.group(1));
                    due.add(Integer.valueOf(answered.group(2)));
                } else {
                    program.append(line).append('\n');
                }
            }
        }
        int[] answers = answersOf(program.append("return answers;\n}\n}\n").toString());
        Due.is("examples are there", calls.isEmpty() ? 0 : 1, 1);
        for (int i = 0; i < calls.size(); i++) {
            Due.is("README.md: " + calls.get(i), answers[i], due.get(i));
        }
    }

    private static int[] answersOf(String program) throws Exception {
        Path out = Files.createTempDirectory("readme");
        Path source = out.resolve("Example.java");
        Path compiled = out.resolve("Example.class");
        try {
            Files.writeString(source, program);
            int code = ToolProvider.getSystemJavaCompiler().run(null, null, null,
                    "-cp", System.getProperty("java.class.path"), "-d", out.toString(), source.toString());
            Due.is("the compiler over the examples of README.md", code, 0);
            if (code != 0) {
                return new int[1000];
            }
            try (URLClassLoader loader = new URLClassLoader(new URL[] {out.toUri().toURL()})) {
                return (int[]) loader.loadClass("Example").getMethod("answers").invoke(null);
            }
        } finally {
            Files.deleteIfExists(compiled);
            Files.deleteIfExists(source);
            Files.deleteIfExists(out);
        }
    }

    private static void calls(String readme) {
        String table = between(readme, "### The calls", "## Tests");
        for (Method method : TrackedTable.class.getDeclaredMethods()) {
            if (Modifier.isPublic(method.getModifiers())) {
                Due.is(method.getName() + " in the table of calls", table.contains("`" + method.getName() + "`") ? 1 : 0, 1);
            }
        }
        Matcher told = Pattern.compile("`([a-z][A-Za-z]*)`").matcher(table);
        while (told.find()) {
            String name = told.group(1);
            boolean is = Stream.of(TrackedTable.class.getMethods()).anyMatch(method -> method.getName().equals(name));
            Due.is(name + " is a call", is ? 1 : 0, 1);
        }
    }

    private static void constants(String readme) throws IllegalAccessException {
        for (Field field : TrackedTable.class.getFields()) {
            String told = field.getInt(null) < 0
                    ? "`" + field.getName() + "` (" + field.getInt(null) + ")"
                    : "// " + field.getInt(null) + ": " + field.getName();
            Due.is(told + " in README.md", readme.contains(told) ? 1 : 0, 1);
        }
    }

    /** Each test that there is is told of, and each class that the list tells of is there. */
    private static void tests(String readme, Path directory) throws IOException {
        Set<String> there = new TreeSet<>();
        try (Stream<Path> files = Files.list(directory)) {
            files.forEach(file -> there.add(file.getFileName().toString().replace(".java", "")));
        }
        Set<String> told = names(between(readme, "## Tests", "## How the class is built"));
        for (String name : there) {
            if (name.endsWith("Test")) {
                Due.is(name + " is told of", told.contains(name) ? 1 : 0, 1);
            }
        }
        for (String name : told) {
            Due.is(name + " is there", there.contains(name) ? 1 : 0, 1);
        }
    }

    private static void classesInside(String readme) {
        Set<String> there = new TreeSet<>();
        for (Class<?> inside : TrackedTable.class.getDeclaredClasses()) {
            there.add(inside.getSimpleName());
        }
        int start = readme.indexOf("## How the class is built");
        Due.same("the classes inside", there.toString(), names(readme.substring(start)).toString());
    }

    private static Set<String> names(String part) {
        Set<String> names = new TreeSet<>();
        Matcher name = CLASS_NAME.matcher(part);
        while (name.find()) {
            names.add(name.group(1));
        }
        return names;
    }

    private static String between(String text, String from, String to) {
        int start = text.indexOf(from);
        int end = text.indexOf(to);
        Due.is(from + " stands before " + to, start >= 0 && start < end ? 1 : 0, 1);
        return start >= 0 && start < end ? text.substring(start, end) : "";
    }
}
