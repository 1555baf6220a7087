/** Promises 6 to 10 and 25: change, out, fruit, pace, undo, mark. */
public final class HandTest {
    private static final Check CHECK = new Check("HandTest");
    private static final String PARTY = "man a plain tall 1 neck 1; woman b shy tall 2 neck 2; man c cold tall 3 neck 3; "
        + "woman d beard tall 4 neck 4; fruit p size 1 slip 1; fruit q size 2 slip 2; ";

    public static void main(String[] args) {
        change();
        out();
        fruit();
        pace();
        undo();
        undoTwenty();
        mark();
        markAndOut();
        nobody();
        CHECK.end();
    }

    private static void change() {
        ChinRow row = CHECK.told(PARTY);
        CHECK.due("change(0, 3)", row.change(0, 3), true);
        CHECK.dueRow("change(0, 3)", row, "3120");
        CHECK.due("change(3, 1)", row.change(3, 1), true);
        CHECK.dueRow("change(3, 1)", row, "1320");
        CHECK.due("change(2, 2)", row.change(2, 2), false);
        CHECK.due("change(4, 0)", row.change(4, 0), false);
        CHECK.due("change(0, 4)", row.change(0, 4), false);
        CHECK.due("change(-1, 0)", row.change(-1, 0), false);
        CHECK.due("change(0, MIN)", row.change(0, Integer.MIN_VALUE), false);
        row.out(2, true);
        CHECK.due("change(2, 0) out", row.change(2, 0), false);
        CHECK.due("change(0, 2) out", row.change(0, 2), false);
        CHECK.due("how many can be undone", row.count(9), 3);
        CHECK.dueRow("what was refused", row, "130");
    }

    private static void out() {
        ChinRow row = CHECK.told(PARTY);
        CHECK.due("out(1, false)", row.out(1, false), false);
        CHECK.due("out(1, true)", row.out(1, true), true);
        CHECK.due("out(1, true) again", row.out(1, true), false);
        CHECK.due("out(4, true)", row.out(4, true), false);
        CHECK.due("out(-1, true)", row.out(-1, true), false);
        CHECK.due("out(32, true)", row.out(32, true), false);
        CHECK.due("out(32, false)", row.out(32, false), false);
        CHECK.dueRow("out(1)", row, "023");
        row.change(0, 3);
        CHECK.dueRow("change(0, 3) without 1", row, "320");
        CHECK.due("out(1, false)", row.out(1, false), true);
        CHECK.dueRow("1 in again at its place", row, "3120");
        for (int i = 0; i < 4; i++) CHECK.due("out(" + i + ", true)", row.out(i, true), true);
        CHECK.dueRow("all out", row, "");
        CHECK.due("count(2)", row.count(2), 0);
        CHECK.due("count(0)", row.count(0), 4);
        row.out(0, false);
        row.out(3, false);
        CHECK.dueRow("two in again", row, "30");
    }

    private static void fruit() {
        ChinRow row = CHECK.told(PARTY + "hold slip;");
        CHECK.due("fruit(0)", row.fruit(0), false);
        CHECK.due("fruit(2)", row.fruit(2), false);
        CHECK.due("fruit(-1)", row.fruit(-1), false);
        CHECK.due("fruit(1)", row.fruit(1), true);
        CHECK.due("fruit(1) again", row.fruit(1), false);
        CHECK.due("count(3)", row.count(3), 1);
        CHECK.due("chance with it", row.chance(3, 0, 0), 4);
        CHECK.due("fruit(0)", row.fruit(0), true);
        CHECK.due("chance with the other", row.chance(3, 0, 0), 3);
        CHECK.due("fruit(MAX)", row.fruit(Integer.MAX_VALUE), false);
        CHECK.due("count(9)", row.count(9), 2);
    }

    private static void pace() {
        ChinRow row = CHECK.told(PARTY + "time pace * 10;");
        CHECK.due("pace(0)", row.pace(0), false);
        CHECK.due("pace(4)", row.pace(4), false);
        CHECK.due("pace(-1)", row.pace(-1), false);
        CHECK.due("pace(3)", row.pace(3), true);
        CHECK.due("pace(3) again", row.pace(3), false);
        CHECK.due("count(4)", row.count(4), 3);
        CHECK.due("pace(1)", row.pace(1), true);
        CHECK.due("seconds goes by its own pace", row.seconds(0, 1, 2), 20);
        CHECK.due("count(9)", row.count(9), 2);
    }

    private static void undo() {
        ChinRow row = CHECK.told(PARTY);
        CHECK.due("undo at first", row.undo(), false);
        row.change(0, 1);
        row.out(2, true);
        row.fruit(1);
        row.pace(2);
        row.out(2, false);
        CHECK.due("count(9)", row.count(9), 5);
        CHECK.due("undo in", row.undo(), true);
        CHECK.dueRow("undo in", row, "103");
        CHECK.due("undo pace", row.undo(), true);
        CHECK.due("pace", row.count(4), 0);
        CHECK.due("fruit stays", row.count(3), 1);
        CHECK.due("undo fruit", row.undo(), true);
        CHECK.due("fruit", row.count(3), 0);
        CHECK.due("undo out", row.undo(), true);
        CHECK.dueRow("undo out", row, "1023");
        CHECK.due("undo change", row.undo(), true);
        CHECK.dueRow("undo change", row, "0123");
        CHECK.due("undo at last", row.undo(), false);
        CHECK.due("count(9)", row.count(9), 0);
    }

    private static void undoTwenty() {
        ChinRow row = CHECK.told(PARTY);
        for (int i = 0; i < 45; i++) {
            row.pace(i % 2 == 0 ? 1 + i % 3 : 0);
            CHECK.due("count(9) after " + (i + 1), row.count(9), Math.min(i + 1, 20));
        }
        row.change(1, 2);
        CHECK.due("undo 1", row.undo(), true);
        for (int i = 44; i > 25; i--) {
            CHECK.due("pace after the " + i + ".", row.count(4), i % 2 == 0 ? 1 + i % 3 : 0);
            CHECK.due("undo", row.undo(), true);
        }
        CHECK.due("pace at last", row.count(4), 0);
        CHECK.due("undo the 21st", row.undo(), false);
    }

    private static void mark() {
        ChinRow row = CHECK.told(PARTY);
        CHECK.due("mark(4, false)", row.mark(4, false), false);
        CHECK.due("mark(-1, false)", row.mark(-1, false), false);
        CHECK.due("mark(4, true)", row.mark(4, true), false);
        CHECK.due("mark(32, true)", row.mark(32, true), false);
        CHECK.due("mark(0, true) with nothing on it", row.mark(0, true), false);
        row.change(0, 2);
        row.pace(3);
        row.fruit(1);
        row.out(1, true);
        CHECK.due("mark(3, false)", row.mark(3, false), true);
        CHECK.due("to lay a mark can't be undone", row.count(9), 4);
        row.undo();
        row.undo();
        row.undo();
        CHECK.due("mark(0, false)", row.mark(0, false), true);
        CHECK.due("mark(3, true)", row.mark(3, true), true);
        CHECK.dueRow("mark 3", row, "203");
        CHECK.due("pace", row.count(4), 3);
        CHECK.due("fruit", row.count(3), 1);
        CHECK.due("nothing can be undone", row.undo(), false);
        CHECK.due("mark(0, true)", row.mark(0, true), true);
        CHECK.dueRow("mark 0", row, "2103");
        CHECK.due("pace", row.count(4), 0);
        row.pace(1);
        CHECK.due("undo one", row.undo(), true);
        CHECK.due("undo no more", row.undo(), false);
        CHECK.due("mark(3, true) stays on it", row.mark(3, true), true);
        CHECK.due("mark(1, true)", row.mark(1, true), false);
        row.pace(2);
        CHECK.due("mark(3, false) anew", row.mark(3, false), true);
        row.pace(0);
        row.mark(3, true);
        CHECK.due("pace of the new one", row.count(4), 2);
    }

    private static void markAndOut() {
        ChinRow row = CHECK.told(PARTY);
        row.out(0, true);
        row.mark(2, false);
        row.out(0, false);
        row.change(0, 3);
        row.mark(2, true);
        CHECK.dueRow("mark 2", row, "123");
        row.out(0, false);
        CHECK.dueRow("0 in again", row, "0123");
    }

    private static void nobody() {
        ChinRow row = new ChinRow();
        CHECK.due("change", row.change(0, 1), false);
        CHECK.due("out", row.out(0, true), false);
        CHECK.due("fruit", row.fruit(0), false);
        CHECK.due("fruit(-1)", row.fruit(-1), false);
        CHECK.due("pace", row.pace(2), true);
        CHECK.due("mark", row.mark(0, false), true);
        CHECK.due("undo", row.undo(), true);
        CHECK.due("mark back", row.mark(0, true), true);
        CHECK.due("pace", row.count(4), 2);
        CHECK.due("fruit", row.count(3), -1);
    }
}
