/** Counts the answers that are not the ones due, and feeds whole texts. */
final class Check {
    private final String test;
    private int asked = 0;
    private int wrong = 0;

    Check(String test) {
        this.test = test;
    }

    void due(String call, long got, long want) {
        asked++;
        if (got != want) {
            wrong++;
            System.out.println(test + ": " + call + " answered " + got + ", due is " + want);
        }
    }

    void due(String call, boolean got, boolean want) {
        due(call, got ? 1L : 0L, want ? 1L : 0L);
    }

    /** Tells a party that must be without a fault, to a new object. */
    ChinRow told(String text) {
        ChinRow row = new ChinRow();
        due("party of '" + text + "'", tell(row, text), 0);
        return row;
    }

    static int tell(ChinRow row, String text) {
        feed(row, text);
        return row.party();
    }

    static void feed(ChinRow row, String text) {
        for (int i = 0; i < text.length(); i += 24) {
            row.feed(eight(text, i), eight(text, i + 8), eight(text, i + 16));
        }
    }

    static long eight(String text, int from) {
        long bytes = 0;
        for (int i = from; i < from + 8; i++) {
            bytes = bytes << 8 | (i < text.length() ? text.charAt(i) : 0);
        }
        return bytes;
    }

    static String rowOf(ChinRow row) {
        StringBuilder text = new StringBuilder();
        for (int i = 0; row.row(i) != ChinRow.NONE; i++) {
            text.append(row.row(i));
        }
        return text.toString();
    }

    int asked() {
        return asked;
    }

    int wrong() {
        return wrong;
    }

    /** Reads a text to a new object; a caret stands before the faulty token, kind 0 has none. */
    void read(String marked, int kind) {
        read(new ChinRow(), marked, kind);
    }

    void read(ChinRow row, String marked, int kind) {
        int place = marked.indexOf('^');
        due("party of '" + marked + "'", tell(row, place < 0 ? marked : marked.substring(0, place) + marked.substring(place + 1)), kind == 0 ? 0 : kind + 16 * place);
    }

    void dueRow(String after, ChinRow row, String want) {
        String got = rowOf(row);
        due("the row after " + after + " is " + got + " for " + want, got.equals(want), true);
    }

    void end() {
        System.out.println(test + ": " + (asked - wrong) + " of " + asked + " answers as due");
        if (wrong != 0 || asked == 0) {
            System.exit(1);
        }
    }
}
