import java.io.IOException;
import java.nio.file.Files;
import java.nio.file.Path;

/** The boundary cases that the document names, one by one: its own words, and what must hold for them. */
final class Edges {
    static final int[] FAR = {Integer.MIN_VALUE, Integer.MIN_VALUE + 1, -33, -32, -2, 31, 32, 33, 64, 256, 10001,
        Integer.MAX_VALUE - 1, Integer.MAX_VALUE};

    interface Holds {
        void by(Check check);
    }

    private final String test;
    private final String document;
    private int edges = 0;
    private int broken = 0;

    Edges(String test) throws IOException {
        this.test = test;
        Path path = Path.of("../shared/DOC.md");
        document = Files.exists(path) ? inOneLine(Files.readString(path)) : "";
        if (document.isEmpty()) System.out.println(test + ": no document at " + path + " to look up the words in");
    }

    private static String inOneLine(String text) {
        return text.replaceAll("\\s+", " ");
    }

    /** The words must be the document's own, so that none of these tests outlives its sentence. */
    void edge(String where, String words, Holds holds) {
        edges++;
        Check check = new Check(test + ", " + where + ", \"" + words + "\"");
        try {
            holds.by(check);
        } catch (RuntimeException thrown) {
            check.due("a call that threw " + thrown, true, false);
        }
        boolean asked = check.asked() > 0;
        check.due("the document has these words", document.isEmpty() || document.contains(inOneLine(words)), true);
        if (check.wrong() > 0 || !asked) {
            broken++;
            System.out.println("broken: " + where + ", \"" + words + "\"");
        }
    }

    void end() {
        System.out.println(test + ": " + (edges - broken) + " of " + edges + " edges hold");
        if (broken != 0 || edges == 0) System.exit(1);
    }
}
