import java.io.IOException;
import java.lang.reflect.Method;
import java.lang.reflect.Modifier;
import java.net.URL;
import java.net.URLClassLoader;
import java.nio.charset.StandardCharsets;
import java.nio.file.Files;
import java.nio.file.Path;
import java.util.ArrayList;
import java.util.List;
import java.util.regex.Matcher;
import java.util.regex.Pattern;
import java.util.stream.Collectors;
import java.util.stream.Stream;
import javax.tools.ToolProvider;

/** README.md: its Java is compiled and run, and each call there must answer what stands behind it. */
public final class ReadmeTest {
    private static final Pattern CALL = Pattern.compile("(x\\.\\w+\\(.*?\\)); +// (-?\\d+|true|false)\\b.*");

    public static void main(String[] args) throws Exception {
        String page = Files.readString(Path.of("README.md"), StandardCharsets.UTF_8);
        Path room = Files.createTempDirectory("readme");
        try {
            runAll(javaOf(page), room);
        } finally {
            clear(room);
        }
        nothingLeftOut(page);
        Check.finish();
    }

    /** The page's Java as one class: methods as they stand, and for each other part a block of main. */
    private static String javaOf(String page) {
        StringBuilder methods = new StringBuilder();
        StringBuilder main = new StringBuilder();
        Matcher part = Pattern.compile("```java\n(.*?)```", Pattern.DOTALL).matcher(page);
        while (part.find()) {
            if (part.group(1).startsWith("static ")) {
                methods.append(part.group(1));
            } else {
                main.append("{\n").append(part.group(1).lines().map(ReadmeTest::checked).collect(Collectors.joining("\n"))).append("\n}\n");
            }
        }
        return "import java.util.List;\npublic final class Readme {\n" + methods
            + "public static void run(List<String> calls, List<String> got, List<String> due) {\n" + main + "}\n}\n";
    }

    private static String checked(String line) {
        Matcher call = CALL.matcher(line);
        if (!call.matches()) {
            Check.due("'" + line + "' has its answer behind it", line.startsWith("x."), false);
            return line;
        }
        return "calls.add(\"" + call.group(1) + "\"); got.add(\"\" + " + call.group(1) + "); due.add(\"" + call.group(2) + "\");";
    }

    private static void runAll(String source, Path room) throws Exception {
        Path file = room.resolve("Readme.java");
        Files.writeString(file, source, StandardCharsets.UTF_8);
        String here = System.getProperty("java.class.path");
        int refused = ToolProvider.getSystemJavaCompiler().run(null, null, null, "-cp", here, "-d", room.toString(), file.toString());
        Check.due("what the compiler says of the page's Java", refused, 0);
        if (refused != 0) {
            return;
        }
        List<String> calls = new ArrayList<>();
        List<String> got = new ArrayList<>();
        List<String> due = new ArrayList<>();
        try (URLClassLoader loader = new URLClassLoader(new URL[] {room.toUri().toURL()}, ReadmeTest.class.getClassLoader())) {
            loader.loadClass("Readme").getMethod("run", List.class, List.class, List.class).invoke(null, calls, got, due);
        }
        for (int i = 0; i < calls.size(); i++) {
            Check.due("README's " + calls.get(i) + " answered " + got.get(i) + " for " + due.get(i), got.get(i).equals(due.get(i)), true);
        }
        for (String name : openNames()) {
            Check.due("README shows " + name, calls.stream().anyMatch(call -> call.startsWith("x." + name + "(")), true);
        }
    }

    private static List<String> openNames() {
        return Stream.of(PrimeBlocks.class.getDeclaredMethods()).filter(method -> Modifier.isPublic(method.getModifiers()))
            .map(Method::getName).collect(Collectors.toList());
    }

    private static void nothingLeftOut(String page) throws IOException {
        for (String name : openNames()) {
            Check.due("README lists " + name, page.contains("| `" + name + "("), true);
        }
        try (Stream<Path> files = Files.list(Path.of("src/test/java"))) {
            for (Path file : files.collect(Collectors.toList())) {
                String name = file.getFileName().toString();
                if (name.endsWith("Test.java")) {
                    Check.due("README lists " + name, page.contains("| `" + name.replace(".java", "") + "` |"), true);
                }
            }
        }
        Check.due("README says how the tests are run", page.contains("```sh\n.ci/run\n```"), true);
    }

    private static void clear(Path room) throws IOException {
        try (Stream<Path> files = Files.list(room)) {
            for (Path file : files.collect(Collectors.toList())) {
                Files.delete(file);
            }
        }
        Files.delete(room);
    }
}
