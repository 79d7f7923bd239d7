import java.io.ByteArrayOutputStream;
import java.io.IOException;
import java.io.PrintStream;
import java.lang.reflect.Method;
import java.lang.reflect.Modifier;
import java.net.URL;
import java.net.URLClassLoader;
import java.nio.file.Files;
import java.nio.file.Path;
import java.util.ArrayList;
import java.util.List;
import java.util.regex.Matcher;
import java.util.regex.Pattern;
import java.util.stream.Collectors;
import java.util.stream.Stream;
import javax.tools.JavaCompiler;
import javax.tools.ToolProvider;

/** README.md: its example holds as it stands, and it names each call and each test. Run from the project's root. */
public final class ReadmeTest {
    private static final Due DUE = new Due("ReadmeTest");
    private static final Pattern EXAMPLE = Pattern.compile("(?s)```java\n(.*?)```");
    private static final Pattern SHOWN = Pattern.compile("System\\.out\\.println\\(.*\\);\\s*// (-?\\w+): .*");

    public static void main(String[] args) throws IOException, ReflectiveOperationException {
        String readme = Files.readString(Path.of("README.md"));
        example(readme);
        calls(readme);
        tests(readme);
        DUE.finish();
    }

    private static void example(String readme) throws IOException, ReflectiveOperationException {
        Matcher m = EXAMPLE.matcher(readme);
        DUE.is("there is an example", m.find(), true);
        String source = m.group(1);
        List<String> want = new ArrayList<>();
        for (String line : source.split("\n")) {
            Matcher shown = SHOWN.matcher(line.trim());
            DUE.is("an answer stands behind: " + line.trim(), shown.matches(), line.contains("println"));
            if (shown.matches()) {
                want.add(shown.group(1));
            }
        }
        List<String> got = printedBy(source);
        DUE.is("lines that the example prints", got.size(), want.size());
        for (int i = 0; i < Math.min(got.size(), want.size()); i++) {
            DUE.is("line " + i + " is " + want.get(i) + ": " + got.get(i), got.get(i).equals(want.get(i)), true);
        }
    }

    private static List<String> printedBy(String source) throws IOException, ReflectiveOperationException {
        Path folder = Files.createTempDirectory("readme");
        Path file = folder.resolve("Example.java");
        Files.writeString(file, source);
        JavaCompiler compiler = ToolProvider.getSystemJavaCompiler();
        int code = compiler.run(null, null, null, "-d", folder.toString(), "src/main/java/DepotMarch.java",
                file.toString());
        DUE.is("the example compiles", code, 0);
        if (code != 0) {
            remove(folder);
            return List.of();
        }
        ByteArrayOutputStream printed = new ByteArrayOutputStream();
        PrintStream out = System.out;
        URL[] where = {folder.toUri().toURL()};
        try (URLClassLoader loader = new URLClassLoader(where, ClassLoader.getPlatformClassLoader())) {
            System.setOut(new PrintStream(printed, true));
            loader.loadClass("Example").getMethod("main", String[].class).invoke(null, (Object) new String[0]);
        } finally {
            System.setOut(out);
            remove(folder);
        }
        return printed.toString().lines().collect(Collectors.toList());
    }

    private static void remove(Path folder) throws IOException {
        try (Stream<Path> files = Files.list(folder)) {
            for (Path one : files.collect(Collectors.toList())) {
                Files.delete(one);
            }
        }
        Files.delete(folder);
    }

    /** Each call stands in the table with as many arguments as it takes, and in the example. */
    private static void calls(String readme) {
        for (Method m : DepotMarch.class.getDeclaredMethods()) {
            if (!Modifier.isPublic(m.getModifiers())) {
                continue;
            }
            Matcher row = Pattern.compile("(?m)^\\| `" + m.getName() + "\\(([^)]*)\\)` \\|").matcher(readme);
            boolean found = row.find();
            DUE.is("a row of " + m.getName(), found, true);
            if (found) {
                DUE.is("arguments of " + m.getName(), row.group(1).split(",").length, m.getParameterCount());
            }
            DUE.is("the example has " + m.getName(), readme.contains("march." + m.getName() + "("), true);
        }
    }

    private static void tests(String readme) throws IOException {
        try (Stream<Path> files = Files.list(Path.of("src/test/java"))) {
            for (Path file : files.collect(Collectors.toList())) {
                String name = file.getFileName().toString().replace(".java", "");
                if (name.endsWith("Test")) {
                    DUE.is("a row of " + name, readme.contains("\n| " + name + " |"), true);
                }
            }
        }
    }
}
