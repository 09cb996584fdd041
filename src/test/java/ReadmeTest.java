import java.io.IOException;
import java.lang.reflect.Method;
import java.net.URL;
import java.net.URLClassLoader;
import java.nio.file.Files;
import java.nio.file.Path;
import java.util.ArrayList;
import java.util.List;
import java.util.regex.Matcher;
import java.util.regex.Pattern;
import java.util.stream.Stream;
import javax.tools.ToolProvider;

/** README.md: its lines of code answer as they say, and it names what it is to name. */
public final class ReadmeTest {
    private static final Path README = Path.of("README.md");
    private static final Pattern ANSWERED =
            Pattern.compile("(?:\\w+ (?<name>\\w+) = )?(?<call>checker\\.\\w+\\(.*\\)); *// (?<due>-?\\w+): \\S.*");

    private ReadmeTest() {
    }

    public static void main(String[] args) throws Exception {
        String text = Files.readString(README);
        List<String> lines = code(text);
        List<Object> got = run(lines);
        Expect.holds("How to use it: each line of code answers as it says", () -> answers(lines, got));
        Expect.holds("How to use it: each call is named", () -> calls(text));
        Expect.holds("How to run its tests: each test is named, and no other", () -> tests(text));
        Expect.end("ReadmeTest");
    }

    private static List<String> code(String text) {
        int start = text.indexOf("```java") + 8;
        return text.substring(start, text.indexOf("```", start)).lines().toList();
    }

    private static void answers(List<String> lines, List<Object> got) {
        Expect.yes("there are lines of code", lines.size() > 1);
        for (int k = 1; k < lines.size(); k++) {
            Matcher matcher = ANSWERED.matcher(lines.get(k));
            Expect.yes(lines.get(k) + " tells its answer", matcher.matches());
            Expect.same(lines.get(k), String.valueOf(got.get(k - 1)), matcher.group("due"));
        }
    }

    /** The lines are compiled as they stand, each answer put into a list behind its line. */
    private static List<Object> run(List<String> lines) throws Exception {
        StringBuilder program = new StringBuilder("public final class Lines {\n")
                .append("public static void run(java.util.List<Object> got) {\n");
        for (String line : lines) {
            Matcher matcher = ANSWERED.matcher(line);
            if (!matcher.matches()) {
                program.append(line).append('\n');
            } else if (matcher.group("name") == null) {
                program.append("got.add(").append(matcher.group("call")).append(");\n");
            } else {
                program.append(line).append("\ngot.add(").append(matcher.group("name")).append(");\n");
            }
        }
        List<Object> got = new ArrayList<>();
        Path folder = Files.createTempDirectory("readme");
        try {
            compiled(folder, program.append("}\n}\n").toString()).invoke(null, got);
        } finally {
            remove(folder);
        }
        return got;
    }

    private static Method compiled(Path folder, String program) throws Exception {
        Path file = Files.writeString(folder.resolve("Lines.java"), program);
        int exit = ToolProvider.getSystemJavaCompiler().run(null, null, null, "-d", folder.toString(),
                "-cp", System.getProperty("java.class.path"), file.toString());
        Expect.same("the lines of code compile, which", exit, 0);
        try (URLClassLoader loader = new URLClassLoader(new URL[] {folder.toUri().toURL()})) {
            return loader.loadClass("Lines").getMethod("run", List.class);
        }
    }

    private static void remove(Path folder) throws IOException {
        for (String name : List.of("Lines.java", "Lines.class")) {
            Files.deleteIfExists(folder.resolve(name));
        }
        Files.deleteIfExists(folder);
    }

    private static void calls(String text) {
        for (Method method : Ironwood.class.getDeclaredMethods()) {
            if (java.lang.reflect.Modifier.isPublic(method.getModifiers())) {
                Expect.yes(method.getName() + "() is told", text.contains("`" + method.getName() + "("));
            }
        }
    }

    private static void tests(String text) {
        try (Stream<Path> files = Files.list(Path.of("src/test/java"))) {
            List<String> names = files.map(file -> file.getFileName().toString().replace(".java", "")).toList();
            for (String name : names) {
                Expect.yes(name + " is told", text.contains("`" + name + "`"));
            }
            Matcher matcher = Pattern.compile("`(\\w+Test)`").matcher(text);
            while (matcher.find()) {
                Expect.yes(matcher.group(1) + " is there", names.contains(matcher.group(1)));
            }
        } catch (IOException thrown) {
            Expect.tell("no tests are found: " + thrown);
        }
    }
}
