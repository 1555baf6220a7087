import java.io.PrintWriter;
import java.io.StringWriter;
import java.util.ArrayList;
import java.util.HashMap;
import java.util.List;
import java.util.Map;
import java.util.Optional;
import java.util.Set;
import java.util.TreeMap;
import java.util.TreeSet;
import java.util.regex.Matcher;
import java.util.regex.Pattern;
import java.util.spi.ToolProvider;

/** What LANGUAGE.md asks for and only the compiled code shows: who calls whom, how deep, and what the machine is told to do. */
public final class CodeTest {
    private static final Check CHECK = new Check("CodeTest");
    private static final Set<String> LIBRARY = Set.of("java/lang/Object.<init>", "java/lang/Math.max", "java/lang/Math.min",
        "java/lang/Math.abs", "java/lang/Integer.bitCount", "java/lang/Long.compare", "java/util/Arrays.fill",
        "java/lang/System.arraycopy");
    private static final Pattern NO_SUCH_CODE = Pattern.compile("athrow|monitor.*|invokedynamic|checkcast|instanceof|[fd](add|sub|mul|div|rem)|multianewarray");
    private static final int DEEPEST = 8;

    private final Map<String, Set<String>> calls = new TreeMap<>();
    private final Set<String> open = new TreeSet<>();
    private final Map<String, Integer> depths = new HashMap<>();
    private String owner = "";
    private String method = "";

    public static void main(String[] args) {
        Optional<ToolProvider> javap = ToolProvider.findFirst("javap");
        if (javap.isEmpty()) {
            System.out.println("CodeTest: this Java has no javap to read the code with");
            return;
        }
        CodeTest test = new CodeTest();
        test.readAll(javap.get());
        test.look();
        CHECK.end();
    }

    private void readAll(ToolProvider javap) {
        List<String> words = new ArrayList<>(List.of("-c", "-p", "-s", "-cp", System.getProperty("java.class.path"), "ChinRow"));
        for (Class<?> inside : ChinRow.class.getDeclaredClasses()) words.add(inside.getName());
        StringWriter told = new StringWriter();
        CHECK.due("javap", javap.run(new PrintWriter(told, true), new PrintWriter(System.out, true), words.toArray(new String[0])), 0);
        told.toString().lines().forEach(this::readLine);
    }

    private void readLine(String line) {
        Matcher type = Pattern.compile("(?:[a-z]+ )*class (ChinRow[$\\w]*).*\\{").matcher(line);
        Matcher head = Pattern.compile("  (?:[a-z]+ )*(?:[\\w$\\[\\]]+ )?([\\w$]+)\\(.*\\);|  (static) \\{\\};").matcher(line);
        Matcher code = Pattern.compile(" +\\d+: (\\w+)(?: .*?)?(?:// (?:Interface)?Method (.*):\\((.*))?").matcher(line);
        if (type.matches()) {
            owner = type.group(1);
        } else if (head.matches()) {
            String name = head.group(1);
            method = name == null ? "<clinit>" : name.equals(owner) ? "<init>" : name;
        } else if (line.startsWith("    descriptor: (")) {
            method = owner + "." + method + line.substring(line.indexOf('('));
            calls.put(method, new TreeSet<>());
        } else if (line.contains("Exception table")) {
            CHECK.due(method + " catches", true, false);
        } else if (code.matches()) {
            readCode(code.group(1), code.group(2), code.group(3));
        }
    }

    private void readCode(String code, String called, String rest) {
        if (NO_SUCH_CODE.matcher(code).matches()) CHECK.due(method + " has " + code, true, false);
        boolean makes = code.equals("new") || code.equals("newarray") || code.equals("anewarray");
        if (makes) CHECK.due(method + " makes something", method.contains(".<init>") || method.contains(".<clinit>"), true);
        if (called == null) return;
        String whole = (called.contains(".") ? "" : owner + ".") + called.replace("\"", "");
        if (whole.startsWith("ChinRow")) {
            calls.get(method).add(whole + "(" + rest.strip());
        } else {
            CHECK.due(method + " calls " + whole, LIBRARY.contains(whole), true);
        }
    }

    private void look() {
        CHECK.due("methods were read", calls.size() > 100, true);
        int deepest = 0;
        for (String from : calls.keySet()) deepest = Math.max(deepest, depth(from));
        CHECK.due("the deepest call goes " + deepest + " deep", deepest > 1 && deepest <= DEEPEST, true);
    }

    // The class uses no recursion, so a method that is met again while it stands open is a fault.
    private int depth(String from) {
        if (depths.containsKey(from)) return depths.get(from);
        CHECK.due(from + " was read", calls.containsKey(from), true);
        boolean again = !open.add(from);
        CHECK.due(from + " calls itself", again, false);
        if (again) return 1;
        int deepest = 0;
        for (String to : calls.getOrDefault(from, Set.of())) deepest = Math.max(deepest, depth(to));
        open.remove(from);
        depths.put(from, deepest + 1);
        return deepest + 1;
    }
}
