import java.io.IOException;

/** Edges of what is looked at and changed by hand: promises 4 to 10, 25 (marks) and 26 (count). */
public final class EdgeHandTest {
    private static final String FOUR = "man a plain tall 1 neck 1; woman b shy tall 22 neck 2; man c cold tall 33 neck 3; "
        + "woman d beard tall 44 neck 4; fruit p size 1 slip 1; fruit q size 2 slip 2; fruit r size 3 slip 3; ";
    private static final String SEVEN = FOUR + "man e plain tall 5 neck 5; man f plain tall 6 neck 6; man g plain tall 7 neck 7; ";

    public static void main(String[] args) throws IOException {
        Edges edges = new Edges("EdgeHandTest");
        looks(edges);
        changes(edges);
        undo(edges);
        marks(edges);
        counts(edges);
        edges.end();
    }

    private static void looks(Edges edges) {
        edges.edge("Promise 4", "what 0: its KIND (0 plain, 1 beard, 2 pearls, 3 shy, 4 stoops, 5 cold)", EdgeHandTest::kind);
        edges.edge("Promise 4", "1: 1 a woman, 0 a man, 2: tall, 3: neck", EdgeHandTest::sexTallNeck);
        edges.edge("Promise 4", "4: its place in the ROW (NONE: OUT)", EdgeHandTest::place);
        edges.edge("Promise 4", "(NONE: OUT); NONE: others.", EdgeHandTest::otherPersons);
        edges.edge("Promise 5", "Who stands at a place of the ROW (without who is OUT)", EdgeHandTest::row);
        edges.edge("Promise 5", "(without who is OUT); NONE: others.", EdgeHandTest::otherPlaces);
    }

    private static void changes(Edges edges) {
        edges.edge("==== 2.", "who stands where in the ROW (two change places)", EdgeHandTest::change);
        edges.edge("==== 2.", "the pace (0 to 3)", EdgeHandTest::paces);
        edges.edge("==== 2.", "who is OUT (of the ROW, the others close up)", EdgeHandTest::closeUp);
        edges.edge("==== 2.", "or in again (at its place)", EdgeHandTest::inAgain);
        edges.edge("Promise 6", "Two change places: true; false: others, the same, OUT.", EdgeHandTest::changeRefused);
        edges.edge("Promise 7", "OUT (or in again): true; false: others, it is so.", EdgeHandTest::outRefused);
        edges.edge("Promise 8", "The FRUIT is this: true; false: others, it is so.", EdgeHandTest::fruitRefused);
        edges.edge("Promise 9", "The pace is this: true; false: others, it is so.", EdgeHandTest::paceRefused);
    }

    private static void undo(Edges edges) {
        edges.edge("==== 2.", "UNDO: these, the last 20, one by one.", EdgeHandTest::lastTwenty);
        edges.edge("==== 2.", "UNDO: these,", EdgeHandTest::these);
        edges.edge("Promise 10", "UNDO: true; false: nothing can be.", EdgeHandTest::nothingCanBe);
    }

    private static void marks(Edges edges) {
        edges.edge("==== 3.", "MARKS 0 to 3", EdgeHandTest::fourMarks);
        edges.edge("==== 3.", "hold the ROW, FRUIT, pace, who is OUT", EdgeHandTest::markHolds);
        edges.edge("==== 3.", "(nothing can be undone when one is gone back to)", EdgeHandTest::markAndUndo);
        edges.edge("Promise 25", "A MARK is laid (back: gone back to): true; false: none such", EdgeHandTest::noSuchMark);
        edges.edge("Promise 25", "nothing is on it (back).", EdgeHandTest::emptyMark);
    }

    private static void counts(Edges edges) {
        edges.edge("Promise 26", "What 0: PEOPLE, 1: FRUITS, 2: who are in the ROW", EdgeHandTest::countPeople);
        edges.edge("Promise 26", "3: the FRUIT (NONE: none is told)", EdgeHandTest::countFruit);
        edges.edge("Promise 26", "4: the pace, 5: pick, 6: 1 front, 0 there", EdgeHandTest::countLaws);
        edges.edge("Promise 26", "7: PAIRS, 8: quarrels", EdgeHandTest::countTwos);
        edges.edge("Promise 26", "9: how many can be undone", EdgeHandTest::countUndone);
        edges.edge("Promise 26", "10: signs on the TAPE", EdgeHandTest::countSigns);
        edges.edge("Promise 26", "NONE for another what.", EdgeHandTest::countOthers);
    }

    private static void kind(Check check) {
        for (int i = 0; i < 6; i++) {
            ChinRow row = check.told("man x " + Model.KINDS.get(i) + " tall 1 neck 1; woman y " + Model.KINDS.get(5 - i) + " tall 1 neck 1;");
            check.due("kind of a man", row.person(0, 0), i);
            check.due("kind of a woman", row.person(1, 0), 5 - i);
        }
    }

    private static void sexTallNeck(Check check) {
        ChinRow row = check.told("man x plain tall 0 neck 9; woman y plain tall 99 neck 0;");
        int[][] due = {{0, 0, 9}, {1, 99, 0}};
        for (int i = 0; i < 2; i++) {
            for (int k = 0; k < 3; k++) check.due("person(" + i + ", " + (k + 1) + ")", row.person(i, k + 1), due[i][k]);
        }
        row.out(1, true);
        check.due("tall of one who is out", row.person(1, 2), 99);
        check.due("sex of one who is out", row.person(1, 1), 1);
    }

    private static void place(Check check) {
        ChinRow row = check.told(SEVEN);
        for (int i = 0; i < 7; i++) check.due("place of " + i, row.person(i, 4), i);
        row.out(0, true);
        row.out(6, true);
        check.due("the first is out", row.person(0, 4), -1);
        check.due("the last is out", row.person(6, 4), -1);
        check.due("the second comes first", row.person(1, 4), 0);
        check.due("the sixth comes last", row.person(5, 4), 4);
        row.change(1, 5);
        check.due("changed", row.person(1, 4), 4);
        check.due("changed, too", row.person(5, 4), 0);
        for (int i = 0; i < 7; i++) row.out(i, true);
        for (int i = 0; i < 7; i++) check.due("all are out", row.person(i, 4), -1);
    }

    private static void otherPersons(Check check) {
        ChinRow row = check.told(FOUR);
        for (int what = 0; what < 5; what++) {
            check.due("person -1", row.person(-1, what), -1);
            check.due("person 4 of four", row.person(4, what), -1);
            for (int far : Edges.FAR) check.due("person " + far, row.person(far, what), -1);
        }
        for (int person = 0; person < 4; person++) {
            check.due("what -1", row.person(person, -1), -1);
            check.due("what 5", row.person(person, 5), -1);
            for (int far : Edges.FAR) check.due("what " + far, row.person(person, far), -1);
        }
        row = check.told(SEVEN);
        check.due("person 6 of seven", row.person(6, 3), 7);
        check.due("person 7 of seven", row.person(7, 3), -1);
        check.read(row, FOUR, 0);
        check.due("person 6 of four", row.person(6, 3), -1);
    }

    private static void row(Check check) {
        ChinRow row = check.told(SEVEN);
        check.dueRow("party", row, "0123456");
        row.out(3, true);
        check.dueRow("3 out", row, "012456");
        check.due("place 6", row.row(6), -1);
        row.out(6, true);
        row.out(0, true);
        check.dueRow("0, 3, 6 out", row, "1245");
        check.due("place 4", row.row(4), -1);
    }

    private static void otherPlaces(Check check) {
        ChinRow row = check.told(SEVEN);
        check.due("place -1", row.row(-1), -1);
        check.due("place 6", row.row(6), 6);
        check.due("place 7", row.row(7), -1);
        for (int far : Edges.FAR) check.due("place " + far, row.row(far), -1);
        for (int i = 0; i < 7; i++) row.out(i, true);
        check.due("place 0 of nobody", row.row(0), -1);
        row.out(4, false);
        check.due("place 0 of one", row.row(0), 4);
        check.due("place 1 of one", row.row(1), -1);
    }

    private static void change(Check check) {
        ChinRow row = check.told(SEVEN);
        row.change(0, 6);
        check.dueRow("the first and the last", row, "6123450");
        row.change(0, 1);
        check.dueRow("0 and 1, wherever they stand", row, "6023451");
        row.change(1, 0);
        check.dueRow("once more", row, "6123450");
        row.out(1, true);
        row.change(6, 2);
        check.dueRow("with 1 out between them", row, "263450");
        row.out(1, false);
        check.dueRow("1 in again", row, "2163450");
    }

    private static void paces(Check check) {
        ChinRow row = check.told(FOUR + "hold 9 - pace;");
        for (int pace = 3; pace >= 0; pace--) {
            check.due("pace(" + pace + ")", row.pace(pace), true);
            check.due("count(4)", row.count(4), pace);
            check.due("it is the pace of the row", row.falls(0, 0) * 10 / row.falls(0, 1), pace + 2); // b is shy: one more falls
        }
        check.due("pace(4)", row.pace(4), false);
        check.due("pace(-1)", row.pace(-1), false);
    }

    private static void closeUp(Check check) {
        ChinRow row = check.told(FOUR);
        row.out(0, true);
        check.dueRow("the first out", row, "123");
        row.out(2, true);
        check.dueRow("one in the middle out", row, "13");
        row.out(3, true);
        check.dueRow("the last out", row, "1");
        row.out(1, true);
        check.dueRow("all out", row, "");
        check.due("in the row", row.count(2), 0);
        check.due("people all the same", row.count(0), 4);
    }

    private static void inAgain(Check check) {
        ChinRow row = check.told(FOUR);
        for (int i = 0; i < 4; i++) row.out(i, true);
        row.out(3, false);
        row.out(0, false);
        row.out(2, false);
        row.out(1, false);
        check.dueRow("all in again, in another order", row, "0123");
        row.change(0, 2);
        row.out(2, true);
        row.change(0, 1);
        check.dueRow("2 out, 0 and 1 changed", row, "013");
        row.out(2, false);
        check.dueRow("2 in at the front, where it was", row, "2013");
    }

    private static void changeRefused(Check check) {
        ChinRow row = check.told(FOUR);
        row.out(2, true);
        int[][] refused = {{0, 0}, {3, 3}, {2, 2}, {0, 2}, {2, 0}, {0, 4}, {4, 0}, {-1, 0}, {0, -1}, {-1, -1}, {-1, 4}};
        for (int[] two : refused) check.due("change(" + two[0] + ", " + two[1] + ")", row.change(two[0], two[1]), false);
        for (int far : Edges.FAR) {
            check.due("change(0, " + far + ")", row.change(0, far), false);
            check.due("change(" + far + ", 0)", row.change(far, 0), false);
        }
        check.dueRow("what was refused", row, "013");
        check.due("can be undone", row.count(9), 1);
        check.due("change(0, 3)", row.change(0, 3), true);
        check.dueRow("what was not", row, "310");
        check.due("can be undone", row.count(9), 2);
    }

    private static void outRefused(Check check) {
        ChinRow row = check.told(FOUR);
        for (int i = 0; i < 4; i++) check.due("out(" + i + ", false), it is in", row.out(i, false), false);
        check.due("out(3, true)", row.out(3, true), true);
        check.due("out(3, true), it is out", row.out(3, true), false);
        for (boolean out : new boolean[] {true, false}) {
            check.due("out(-1)", row.out(-1, out), false);
            check.due("out(4)", row.out(4, out), false);
            check.due("out(35)", row.out(35, out), false);
            for (int far : Edges.FAR) check.due("out(" + far + ")", row.out(far, out), false);
        }
        check.due("can be undone", row.count(9), 1);
        check.dueRow("what was refused", row, "012");
        check.due("out(3, false)", row.out(3, false), true);
        check.due("can be undone", row.count(9), 2);
    }

    private static void fruitRefused(Check check) {
        ChinRow row = check.told(FOUR);
        check.due("fruit(0), it is so", row.fruit(0), false);
        check.due("fruit(3) of three", row.fruit(3), false);
        check.due("fruit(-1)", row.fruit(-1), false);
        for (int far : Edges.FAR) check.due("fruit(" + far + ")", row.fruit(far), false);
        check.due("can be undone", row.count(9), 0);
        check.due("fruit(2)", row.fruit(2), true);
        check.due("fruit(2), it is so", row.fruit(2), false);
        check.due("the fruit", row.count(3), 2);
        check.due("can be undone", row.count(9), 1);
        check.due("fruit(0) again", row.fruit(0), true);
        check.due("the fruit", row.count(3), 0);
        row = check.told("man a plain tall 1 neck 1;");
        check.due("fruit(0) without any", row.fruit(0), false);
        check.due("fruit(-1) without any", row.fruit(-1), false);
        check.due("the fruit without any", row.count(3), -1);
    }

    private static void paceRefused(Check check) {
        ChinRow row = new ChinRow();
        check.due("pace(0), it is so", row.pace(0), false);
        check.due("pace(4)", row.pace(4), false);
        check.due("pace(-1)", row.pace(-1), false);
        for (int far : Edges.FAR) check.due("pace(" + far + ")", row.pace(far), false);
        check.due("can be undone", row.count(9), 0);
        check.due("pace(3)", row.pace(3), true);
        check.due("pace(3), it is so", row.pace(3), false);
        check.due("the pace", row.count(4), 3);
        check.due("can be undone", row.count(9), 1);
        check.due("pace(0) again", row.pace(0), true);
        check.due("the pace", row.count(4), 0);
    }

    private static void lastTwenty(Check check) {
        for (int changes : new int[] {1, 19, 20, 21, 22, 39, 40, 41, 60}) {
            ChinRow row = check.told(FOUR);
            int[] paces = new int[changes + 1];
            for (int i = 1; i <= changes; i++) {
                paces[i] = (paces[i - 1] + 1 + i % 3) % 4;
                check.due("change " + i, row.pace(paces[i]), true);
            }
            int most = Math.min(changes, 20);
            for (int i = 1; i <= most; i++) {
                check.due("undo " + i + " of " + changes, row.undo(), true);
                check.due("the pace before it", row.count(4), paces[changes - i]);
            }
            check.due("one more of " + changes, row.undo(), false);
            check.due("the pace stays", row.count(4), paces[changes - most]);
        }
    }

    private static void these(Check check) {
        ChinRow row = check.told(FOUR);
        row.change(0, 3);
        row.fruit(2);
        row.pace(1);
        row.out(1, true);
        row.out(1, false);
        row.mark(0, false);
        String[] rows = {"320", "3120", "3120", "3120", "0123"};
        int[] paces = {1, 1, 0, 0, 0};
        int[] fruits = {2, 2, 2, 0, 0};
        for (int i = 0; i < 5; i++) {
            check.due("undo", row.undo(), true);
            check.dueRow("undo " + i, row, rows[i]);
            check.due("pace after undo " + i, row.count(4), paces[i]);
            check.due("fruit after undo " + i, row.count(3), fruits[i]);
        }
        check.due("neither feed nor a mark is undone", row.undo(), false);
        check.due("the mark is there still", row.mark(0, true), true);
        check.dueRow("the mark", row, "3120");
    }

    private static void nothingCanBe(Check check) {
        ChinRow row = new ChinRow();
        check.due("undo of a new object", row.undo(), false);
        check.read(row, FOUR, 0);
        check.due("undo of a party", row.undo(), false);
        row.change(0, 0);
        row.pace(0);
        row.fruit(9);
        row.out(1, false);
        check.due("undo of what was refused", row.undo(), false);
        row.pace(2);
        check.due("undo", row.undo(), true);
        check.due("undo of an undo", row.undo(), false);
        check.due("pace", row.count(4), 0);
        row.pace(2);
        check.read(row, FOUR, 0);
        check.due("undo behind a new party", row.undo(), false);
        row.pace(2);
        check.read(row, "^boy", 1);
        check.due("undo behind a fault", row.undo(), true);
    }

    private static void fourMarks(Check check) {
        ChinRow row = check.told(FOUR);
        for (int i = 0; i < 4; i++) {
            row.pace(i);
            check.due("mark(" + i + ", false)", row.mark(i, false), true);
        }
        check.due("mark(4, false)", row.mark(4, false), false);
        for (int i = 3; i >= 0; i--) {
            check.due("mark(" + i + ", true)", row.mark(i, true), true);
            check.due("the pace on it", row.count(4), i);
        }
    }

    private static void markHolds(Check check) {
        ChinRow row = check.told(FOUR);
        row.change(0, 3);
        row.fruit(1);
        row.pace(2);
        row.out(1, true);
        row.mark(0, false);
        row.change(0, 2);
        row.fruit(2);
        row.pace(3);
        row.out(1, false);
        row.out(3, true);
        check.dueRow("changes behind the mark", row, "102");
        check.due("mark(0, true)", row.mark(0, true), true);
        check.dueRow("mark", row, "320");
        check.due("fruit", row.count(3), 1);
        check.due("pace", row.count(4), 2);
        check.due("who is out", row.person(1, 4), -1);
        row.out(1, false);
        check.dueRow("1 in again", row, "3120");
        check.due("mark(0, true) once more", row.mark(0, true), true);
        check.dueRow("mark once more", row, "320");
        row.out(1, false);
        row.mark(0, false);
        row.pace(0);
        row.mark(0, true);
        check.dueRow("mark laid anew", row, "3120");
        check.due("pace", row.count(4), 2);
    }

    private static void markAndUndo(Check check) {
        ChinRow row = check.told(FOUR);
        row.pace(1);
        row.pace(2);
        row.mark(1, false);
        check.due("laying one changes nothing", row.count(9), 2);
        check.due("mark(1, true)", row.mark(1, true), true);
        check.due("can be undone", row.count(9), 0);
        check.due("undo", row.undo(), false);
        check.due("pace", row.count(4), 2);
        row.pace(3);
        check.due("can be undone", row.count(9), 1);
        check.due("mark(2, true) is refused", row.mark(2, true), false);
        check.due("and changes nothing", row.count(9), 1);
        check.due("undo", row.undo(), true);
        check.due("pace", row.count(4), 2);
    }

    private static void noSuchMark(Check check) {
        ChinRow row = check.told(FOUR);
        for (int i = 0; i < 4; i++) row.mark(i, false);
        row.pace(1);
        for (boolean back : new boolean[] {true, false}) {
            check.due("mark(-1)", row.mark(-1, back), false);
            check.due("mark(4)", row.mark(4, back), false);
            for (int far : Edges.FAR) check.due("mark(" + far + ")", row.mark(far, back), false);
        }
        check.due("pace", row.count(4), 1);
        check.due("can be undone", row.count(9), 1);
    }

    private static void emptyMark(Check check) {
        ChinRow row = check.told(FOUR);
        row.pace(3);
        for (int i = 0; i < 4; i++) check.due("mark(" + i + ", true)", row.mark(i, true), false);
        row.mark(2, false);
        for (int i = 0; i < 4; i++) check.due("mark(" + i + ", true)", row.mark(i, true), i == 2);
        check.read(row, FOUR, 0);
        for (int i = 0; i < 4; i++) check.due("mark(" + i + ", true) anew", row.mark(i, true), false);
        row = new ChinRow();
        check.due("mark(0, true) of nobody", row.mark(0, true), false);
        check.due("mark(0, false) of nobody", row.mark(0, false), true);
        check.due("mark(0, true) of nobody", row.mark(0, true), true);
    }

    private static void countPeople(Check check) {
        ChinRow row = check.told(SEVEN);
        check.due("people", row.count(0), 7);
        check.due("fruits", row.count(1), 3);
        for (int i = 0; i < 7; i++) {
            check.due("in the row", row.count(2), 7 - i);
            row.out(i, true);
        }
        check.due("none in the row", row.count(2), 0);
        check.due("people", row.count(0), 7);
        row.out(6, false);
        check.due("one in the row", row.count(2), 1);
        check.due("no people", new ChinRow().count(0), 0);
    }

    private static void countFruit(Check check) {
        check.due("of nobody", new ChinRow().count(3), -1);
        check.due("of people without", check.told("man a plain tall 1 neck 1;").count(3), -1);
        ChinRow row = check.told(FOUR);
        check.due("at first", row.count(3), 0);
        row.fruit(2);
        check.due("the third", row.count(3), 2);
        check.read(row, "man a plain tall 1 neck 1;", 0);
        check.due("behind a party without", row.count(3), -1);
    }

    private static void countLaws(Check check) {
        ChinRow row = check.told("fall front; pick 99;");
        int[] due = {0, 99, 1};
        for (int i = 0; i < 3; i++) check.due("count(" + (4 + i) + ")", row.count(4 + i), due[i]);
        row.pace(3);
        check.due("the pace", row.count(4), 3);
        check.read(row, "fall there; pick 0;", 0);
        due = new int[] {0, 0, 0};
        for (int i = 0; i < 3; i++) check.due("count(" + (4 + i) + ")", row.count(4 + i), due[i]);
    }

    private static void countTwos(Check check) {
        ChinRow row = check.told(SEVEN + "pair a b; quarrel a c; pair c d; quarrel g f; quarrel g e;");
        check.due("pairs", row.count(7), 2);
        check.due("quarrels", row.count(8), 3);
        row.out(0, true);
        check.due("pairs with one out", row.count(7), 2);
        check.due("quarrels with one out", row.count(8), 3);
        check.due("no pairs", check.told(SEVEN).count(7), 0);
        check.due("no quarrels", check.told(SEVEN).count(8), 0);
    }

    private static void countUndone(Check check) {
        ChinRow row = check.told(FOUR);
        for (int i = 0; i < 25; i++) {
            check.due("after " + i, row.count(9), Math.min(i, 20));
            row.change(0, 1);
        }
        for (int i = 20; i >= 0; i--) {
            check.due("left " + i, row.count(9), i);
            row.undo();
        }
        check.due("none left", row.count(9), 0);
    }

    private static void countSigns(Check check) {
        ChinRow row = new ChinRow();
        check.due("none", row.count(10), 0);
        row.feed('a', 'b', 'c');
        check.due("three", row.count(10), 3);
        Check.feed(row, " ".repeat(996));
        check.due("999", row.count(10), 999);
        Check.feed(row, "    ");
        check.due("1,000", row.count(10), 1000);
        row.party();
        check.due("none again", row.count(10), 0);
    }

    private static void countOthers(Check check) {
        ChinRow row = check.told(SEVEN);
        check.due("count(-1)", row.count(-1), -1);
        check.due("count(11)", row.count(11), -1);
        for (int far : Edges.FAR) check.due("count(" + far + ")", row.count(far), -1);
    }
}
