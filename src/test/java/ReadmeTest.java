import java.io.ByteArrayOutputStream;
import java.io.PrintStream;
import java.lang.reflect.Method;
import java.lang.reflect.Modifier;
import java.net.URL;
import java.net.URLClassLoader;
import java.nio.file.Files;
import java.nio.file.Path;
import java.util.ArrayList;
import java.util.List;
import java.util.regex.Matcher;
import java.util.regex.Pattern;
import java.util.stream.Stream;
import javax.tools.ToolProvider;

/** README.md must stay true: its program prints what it says, and it leaves out no call, no class and no test. */
public final class ReadmeTest {
    private static final Check CHECK = new Check("ReadmeTest");
    private static final Path BUILD = Path.of("build/readme");

    public static void main(String[] args) throws Exception {
        String readme = Files.readString(Path.of("README.md"));
        program(readme);
        calls(readme);
        classes(readme);
        tests(readme);
        CHECK.end();
    }

    private static void program(String readme) throws Exception {
        Matcher blocks = Pattern.compile("(?s)```java\n(.*?)```").matcher(readme);
        CHECK.due("README.md has a program", blocks.find(), true);
        String program = blocks.group(1);
        List<String> want = new ArrayList<>();
        Matcher printed = Pattern.compile("println\\(.*\\); // (.*)").matcher(program);
        while (printed.find()) want.add(printed.group(1));
        List<String> got = List.of(printedBy(program).split("\\R"));
        CHECK.due("it prints", want.size(), got.size());
        for (int i = 0; i < Math.min(want.size(), got.size()); i++) {
            CHECK.due("line " + i + ", " + got.get(i) + " for " + want.get(i), got.get(i).equals(want.get(i)), true);
        }
    }

    private static String printedBy(String program) throws Exception {
        Files.createDirectories(BUILD);
        Path file = BUILD.resolve("Example.java");
        Files.writeString(file, program);
        int failed = ToolProvider.getSystemJavaCompiler().run(null, null, null, "-cp", System.getProperty("java.class.path"),
            "-d", BUILD.toString(), file.toString());
        CHECK.due("it compiles", failed, 0);
        ByteArrayOutputStream bytes = new ByteArrayOutputStream();
        PrintStream screen = System.out;
        System.setOut(new PrintStream(bytes, true));
        try (URLClassLoader loader = new URLClassLoader(new URL[] {BUILD.toUri().toURL()})) {
            loader.loadClass("Example").getMethod("main", String[].class).invoke(null, (Object) new String[0]);
        } finally {
            System.setOut(screen);
        }
        return bytes.toString();
    }

    private static void calls(String readme) {
        for (Method method : ChinRow.class.getDeclaredMethods()) {
            if (!Modifier.isPublic(method.getModifiers())) continue;
            Matcher told = Pattern.compile("(?m)^\\|.*`" + method.getName() + "\\(([^)]*)\\)`.*\\|.*\\|$").matcher(readme);
            boolean found = told.find();
            CHECK.due("the table has " + method.getName(), found, true);
            int arguments = !found || told.group(1).isEmpty() ? 0 : told.group(1).split(",").length;
            CHECK.due("arguments of " + method.getName(), arguments, method.getParameterCount());
        }
    }

    private static void classes(String readme) {
        for (Class<?> inside : ChinRow.class.getDeclaredClasses()) {
            boolean found = Pattern.compile("(?m)^\\|.*`" + inside.getSimpleName() + "`.*\\|.*\\|$").matcher(readme).find();
            CHECK.due("the table has " + inside.getSimpleName(), found, true);
        }
    }

    private static void tests(String readme) throws Exception {
        try (Stream<Path> files = Files.list(Path.of("src/test/java"))) {
            for (Path file : files.toList()) {
                String name = file.getFileName().toString().replace(".java", "");
                if (name.endsWith("Test")) CHECK.due("the table has " + name, readme.contains("\n| `" + name + "` |"), true);
            }
        }
        Matcher told = Pattern.compile("\\| `(\\w+Test)` \\|").matcher(readme);
        while (told.find()) {
            CHECK.due(told.group(1) + " is there", Files.exists(Path.of("src/test/java/" + told.group(1) + ".java")), true);
        }
    }
}
