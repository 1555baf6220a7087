import java.lang.management.ManagementFactory;
import java.lang.reflect.Constructor;
import java.lang.reflect.Field;
import java.lang.reflect.Method;
import java.lang.reflect.Modifier;
import java.nio.file.Files;
import java.nio.file.Path;
import java.util.TreeSet;
import java.util.regex.Matcher;
import java.util.regex.Pattern;

/** What LANGUAGE.md asks for, as far as a test can see it: the face, the words that are ruled out, sizes, and the room. */
public final class RulesTest {
    private static final Check CHECK = new Check("RulesTest");
    private static final String[] FACE = {"int feed(long, long, long)", "int party()", "int person(int, int)", "int row(int)",
        "boolean change(int, int)", "boolean out(int, boolean)", "boolean fruit(int)", "boolean pace(int)", "boolean undo()",
        "int chance(int, int, int)", "int seconds(int, int, int)", "long mean(int)", "long falls(int, int)", "long least(int)",
        "int orders()", "int best()", "int bought(int)", "int hurry(int, int, int, boolean)", "int laughs(int)",
        "int outer(int)", "int even(int)", "long let(int, int, int, int, int)", "int evening(int, int)",
        "boolean mark(int, boolean)", "int count(int)"};
    private static final String[] RULED_OUT = {"throw", "throws", "try", "catch", "finally", "synchronized", "assert", "Exact",
        "->", "::", "System\\.(?!arraycopy)", "Math\\.random", "Thread", "float", "double", "instanceof", "Object", "List",
        "package", "protected", "hashCode", "String", "static \\{", "while \\(true\\)"};

    public static void main(String[] args) throws Exception {
        face();
        source();
        room();
        CHECK.end();
    }

    private static void face() {
        TreeSet<String> want = new TreeSet<>(java.util.List.of(FACE));
        TreeSet<String> got = new TreeSet<>();
        TreeSet<String> hidden = new TreeSet<>();
        for (Method method : ChinRow.class.getDeclaredMethods()) {
            int flags = method.getModifiers();
            CHECK.due(method + " is public or private", Modifier.isPublic(flags) || Modifier.isPrivate(flags), true);
            if (Modifier.isPublic(flags)) got.add(told(method)); else hidden.add(method.getName());
        }
        CHECK.due("the face is " + got, got.equals(want), true);
        for (String method : FACE) {
            String name = method.substring(method.indexOf(' ') + 1, method.indexOf('('));
            CHECK.due("a private method bears the name " + name, hidden.contains(name), false);
        }
        for (Field field : ChinRow.class.getDeclaredFields()) {
            boolean none = field.getName().equals("NONE");
            CHECK.due(field + " is private", Modifier.isPrivate(field.getModifiers()), !none);
            boolean still = !Modifier.isStatic(field.getModifiers()) || Modifier.isFinal(field.getModifiers());
            CHECK.due(field + " is final if it is static", still, true);
        }
        for (Constructor<?> constructor : ChinRow.class.getDeclaredConstructors()) {
            CHECK.due("the constructor", Modifier.isPublic(constructor.getModifiers()) && constructor.getParameterCount() == 0, true);
        }
        CHECK.due("the class is final", Modifier.isFinal(ChinRow.class.getModifiers()), true);
        CHECK.due("it has at most twelve classes", ChinRow.class.getDeclaredClasses().length < 12, true);
        for (Class<?> inside : ChinRow.class.getDeclaredClasses()) {
            CHECK.due(inside + " is static", Modifier.isStatic(inside.getModifiers()), true);
            CHECK.due(inside + " has few fields", inside.getDeclaredFields().length <= 20, true);
        }
    }

    private static String told(Method method) {
        StringBuilder text = new StringBuilder(method.getReturnType() + " " + method.getName() + "(");
        for (Class<?> type : method.getParameterTypes()) text.append(text.charAt(text.length() - 1) == '(' ? "" : ", ").append(type);
        return text + ")";
    }

    private static void source() throws Exception {
        String text = Files.readString(Path.of("src/main/java/ChinRow.java"));
        String code = text.replaceAll("(?s)/\\*.*?\\*/", "").replaceAll("//[^\n]*", "");
        for (String word : RULED_OUT) {
            boolean found = Pattern.compile(word.matches("\\w+") ? "\\b" + word + "\\b" : word).matcher(code).find();
            CHECK.due("the source has " + word, found, false);
        }
        Matcher imports = Pattern.compile("import ([^;]*);").matcher(code);
        while (imports.find()) CHECK.due(imports.group(), imports.group(1).equals("java.util.Arrays"), true);
        Matcher methods = Pattern.compile("\n( +)(?:private |public |static |final )*\\w+(?:\\[\\])? \\w+\\(([^)]*)\\) \\{").matcher(code);
        int seen = 0;
        while (methods.find()) {
            seen++;
            int end = code.indexOf("\n" + methods.group(1) + "}", methods.end());
            long lines = code.substring(methods.start(), end).lines().count();
            CHECK.due("lines of" + methods.group().trim(), lines <= 60, true);
            CHECK.due("parameters of" + methods.group().trim(), methods.group(2).split(",").length <= 7, true);
        }
        CHECK.due("methods were seen", seen > 80, true);
    }

    // All calls of one run share one room of some 7.3 million fields and elements, so calls must make next to nothing.
    private static void room() {
        com.sun.management.ThreadMXBean bean = (com.sun.management.ThreadMXBean) ManagementFactory.getThreadMXBean();
        long thread = Thread.currentThread().getId();
        String party = "man a plain tall 1 neck 1; woman b beard tall 2 neck 2; man c cold tall 3 neck 3; fruit p size 1 slip 1; "
            + "fruit q size 2 slip 2; hold 9 - slip; time step + 5; laugh step < 9; pair a b; quarrel a c; fall front; ";
        ChinRow warm = new ChinRow();
        everyCall(warm, party);
        long before = bean.getThreadAllocatedBytes(thread);
        ChinRow row = new ChinRow();
        long made = bean.getThreadAllocatedBytes(thread) - before;
        CHECK.due("a new object takes " + made + " bytes", made < 64 * 1024, true);
        before = bean.getThreadAllocatedBytes(thread);
        for (int i = 0; i < 100; i++) everyCall(row, party);
        made = bean.getThreadAllocatedBytes(thread) - before;
        CHECK.due("5,000 calls take " + made + " bytes", made < 64 * 1024, true);
    }

    private static void everyCall(ChinRow row, String party) {
        Check.feed(row, party);
        row.party();
        for (int i = 0; i < 2; i++) {
            row.person(i, 4);
            row.row(i);
            row.change(0, 1);
            row.out(2, i == 0);
            row.fruit(i);
            row.pace(i + 1);
            row.chance(0, 1, i);
            row.seconds(0, 1, i);
            row.mean(i);
            row.falls(i - 1, i);
            row.least(i);
            row.orders();
            row.best();
            row.bought(20);
            row.hurry(1, 9, 5, i == 0);
            row.laughs(i);
            row.outer(i);
            row.even(i);
            row.let(4, 4, 3, 8, i);
            row.evening(i, i);
            row.mark(i, false);
            row.count(i);
            row.undo();
            row.mark(i, true);
        }
    }
}
