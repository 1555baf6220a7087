import java.io.IOException;

/** Edges of ORDERS, LEAST and FRUIT FIRST: promises 15 to 17. */
public final class EdgeOrderTest {
    public static void main(String[] args) throws IOException {
        Edges edges = new Edges("EdgeOrderTest");
        edges.edge("==== 3.", "ORDERS of all who are not OUT", EdgeOrderTest::notOut);
        edges.edge("==== 3.", "PAIRS next to each other", EdgeOrderTest::pairs);
        edges.edge("==== 3.", "(if both are not OUT)", EdgeOrderTest::pairsOut);
        edges.edge("==== 3.", "nobody next to whom he quarrels with", EdgeOrderTest::quarrels);
        edges.edge("==== 3.", "by turns men and women if that is the law", EdgeOrderTest::turns);
        edges.edge("==== 3.", "LEAST: the ORDER with the least MEAN (by its law)", EdgeOrderTest::byItsLaw);
        edges.edge("==== 3.", "of equal ones the first (by numbers)", EdgeOrderTest::firstByNumbers);
        edges.edge("Promise 15", "LEAST, what 0, 1: its MEAN, above and below", EdgeOrderTest::aboveAndBelow);
        edges.edge("Promise 15", "2 + k: who stands at place k; NONE: others", EdgeOrderTest::places);
        edges.edge("Promise 15", "NONE: others, no ORDER with one.", EdgeOrderTest::noOrder);
        edges.edge("Promise 16", "How many ORDERS there are.", EdgeOrderTest::howMany);
        edges.edge("==== 3.", "FRUIT FIRST: the FRUIT with the least MEAN of the ROW; of equal ones the first.", EdgeOrderTest::bestOfEqual);
        edges.edge("Promise 17", "FRUIT FIRST; NONE: none has a MEAN", EdgeOrderTest::noneHasMean);
        edges.edge("Promise 17", "none has a MEAN, no FRUIT.", EdgeOrderTest::noFruit);
        edges.end();
    }

    private static String people(String sexes) {
        StringBuilder text = new StringBuilder();
        for (int i = 0; i < sexes.length(); i++) {
            text.append(sexes.charAt(i) == 'm' ? "man " : "woman ").append((char) ('a' + i)).append(" plain tall 1 neck 1;");
        }
        return text.toString();
    }

    private static void dueOrders(Check check, String text, int due) {
        check.due("orders of '" + text + "'", check.told(text).orders(), due);
    }

    private static void dueLeast(Check check, String what, ChinRow row, long... due) {
        for (int i = 0; i < due.length; i++) check.due("least(" + i + ") of " + what, row.least(i), due[i]);
        check.due("least behind the last of " + what, row.least(due.length), -1);
    }

    private static void notOut(Check check) {
        ChinRow row = check.told(people("mwmwmwm"));
        int[] due = {5040, 720, 120, 24, 6, 2, 1, 1};
        for (int out = 0; out < 7; out++) {
            check.due("orders with " + out + " out", row.orders(), due[out]);
            row.out(6 - out, true);
        }
        check.due("orders with all out", row.orders(), due[7]);
        dueLeast(check, "nobody in the row", row, 0, 1);
        row.out(3, false);
        row.out(5, false);
        check.due("orders of two", row.orders(), 2);
        dueLeast(check, "two in the row", row, 12, 1, 3, 5); // (90 + 6) / 8
        row.out(3, true);
        row.out(5, true);
        dueLeast(check, "nobody in the row again", row, 0, 1);
    }

    private static void pairs(Check check) {
        dueOrders(check, people("mw") + "pair a b;", 2);
        dueOrders(check, people("mwm") + "pair a c;", 4);
        dueOrders(check, people("mwm") + "pair a b; pair b c;", 2);
        dueOrders(check, people("mwm") + "pair a b; pair b c; pair c a;", 0);
        dueOrders(check, people("mwmw") + "pair a b; pair a c; pair a d;", 0);
        dueOrders(check, people("mwmw") + "pair a b; pair c d;", 8);
        dueOrders(check, people("mwmwmwm") + "pair a g;", 1440);
        dueOrders(check, people("mwmwmwm") + "pair a b; pair b c; pair c d; pair d e; pair e f; pair f g;", 2);
        dueOrders(check, people("mwmwmwm") + "pair a b; pair b c; pair c d; pair d e; pair e f; pair f g; pair g a;", 0);
        dueLeast(check, "a and c", check.told(people("mwm") + "pair a c;"), 24, 1, 0, 2, 1);
    }

    private static void pairsOut(Check check) {
        ChinRow row = check.told(people("mwm") + "pair a b; pair b c; pair c a;");
        check.due("all in", row.orders(), 0);
        row.out(1, true);
        check.due("b out", row.orders(), 2);
        row.out(0, true);
        check.due("a and b out", row.orders(), 1);
        row.out(1, false);
        check.due("a out", row.orders(), 2);
        row.out(0, false);
        check.due("all in again", row.orders(), 0);
        row = check.told(people("mwmw") + "pair a b;");
        row.out(0, true);
        check.due("the first of a pair out", row.orders(), 6);
        row.out(0, false);
        row.out(1, true);
        check.due("the second of a pair out", row.orders(), 6);
    }

    private static void quarrels(Check check) {
        dueOrders(check, people("mw") + "quarrel a b;", 0);
        dueOrders(check, people("mwm") + "quarrel a c;", 2);
        dueOrders(check, people("mwm") + "quarrel a c; quarrel c b;", 0);
        dueOrders(check, people("mwmw") + "quarrel a b; quarrel b c; quarrel c d;", 2);
        dueOrders(check, people("mwmwmwm") + "quarrel g a;", 3600);
        dueOrders(check, people("mwmwmwm") + "quarrel a b;quarrel a c;quarrel a d;quarrel a e;quarrel a f;quarrel a g;", 0);
        dueOrders(check, people("mwmwmwm") + "quarrel a b;quarrel a c;quarrel a d;quarrel a e;quarrel a f;", 240);
        ChinRow row = check.told(people("mw") + "quarrel b a;");
        check.due("least of two who quarrel", row.least(0), -1);
        row.out(0, true);
        check.due("one of them out", row.orders(), 1);
        dueLeast(check, "the other one", row, 0, 1, 1);
        dueLeast(check, "a, c apart", check.told(people("mwm") + "quarrel a c;"), 24, 1, 0, 1, 2);
        dueLeast(check, "a, b apart", check.told(people("mwm") + "quarrel a b;"), 24, 1, 0, 2, 1);
    }

    private static void turns(Check check) {
        String[] sexes = {"", "m", "w", "mw", "wm", "mm", "ww", "mmw", "mww", "mmm", "mmww", "mmmw", "mmmwww", "mmmmwww", "mmmwwww", "mmmmmww", "mmmmmmm"};
        int[] due = {1, 1, 1, 2, 2, 0, 0, 2, 2, 0, 8, 0, 72, 144, 144, 0, 0};
        for (int i = 0; i < sexes.length; i++) {
            dueOrders(check, people(sexes[i]) + "turns;", due[i]);
            dueOrders(check, people(sexes[i]), new int[] {1, 1, 2, 6, 24, 120, 720, 5040}[sexes[i].length()]);
        }
        ChinRow row = check.told(people("mmmw") + "turns;");
        row.out(0, true);
        check.due("with one man less", row.orders(), 2);
        dueLeast(check, "with one man less", row, 24, 1, 1, 3, 2);
        check.read(row, people("mm"), 0);
        check.due("the law is gone with its party", row.orders(), 2);
    }

    private static void byItsLaw(Check check) {
        // Necks hold 9, 5 and 2 of ten; each try takes 9 seconds.
        String three = "man a plain tall 0 neck 9; woman b plain tall 0 neck 5; man c plain tall 0 neck 2; hold neck; pick 0; ";
        dueLeast(check, "there", check.told(three), 28, 1, 2, 0, 1); // 10 + 18, either way round
        dueLeast(check, "front", check.told(three + "fall front;"), 30, 1, 2, 1, 0); // the hard one first: (180 + 90) / 9
        ChinRow row = check.told(three + "fall front;");
        check.read(row, three, 0);
        dueLeast(check, "there, behind front", row, 28, 1, 2, 0, 1);
        check.dueRow("least", row, "012");
    }

    private static void firstByNumbers(Check check) {
        for (String law : new String[] {"", "fall front;"}) {
            dueLeast(check, "seven alike for sure", check.told(people("mwmwmwm") + "hold 10; time 1;" + law), 6, 1, 0, 1, 2, 3, 4, 5, 6);
            dueLeast(check, "a, b apart", check.told(people("mwmwmwm") + "hold 10; time 1; quarrel b a;" + law), 6, 1, 0, 2, 1, 3, 4, 5, 6);
            dueLeast(check, "by turns", check.told(people("mmmwwww") + "hold 10; time 1; turns;" + law), 6, 1, 3, 0, 4, 1, 5, 2, 6);
            dueLeast(check, "g with a, b with c", check.told(people("mwmwmwm") + "hold 10; time 1; pair a g; pair b c;" + law), 6, 1, 0, 6, 1, 2, 3, 4, 5);
            ChinRow row = check.told("man a plain tall 10 neck 0; man b plain tall 0 neck 0; man c plain tall 20 neck 0; hold 10; time step;" + law);
            dueLeast(check, "1 0 2 and 2 0 1", row, 20, 1, 1, 0, 2);
            row.change(0, 2);
            dueLeast(check, "by numbers, not by the row", row, 20, 1, 1, 0, 2);
        }
    }

    private static void aboveAndBelow(Check check) {
        // b's neck holds 9 of ten: from a to b it takes (90 + 3) / 9.
        ChinRow row = check.told("man a plain tall 0 neck 3; woman b plain tall 0 neck 9; hold neck;");
        dueLeast(check, "in lowest terms", row, 31, 3, 0, 1);
        dueLeast(check, "a whole number", check.told(people("mw") + "hold 10;"), 9, 1, 0, 1);
        dueLeast(check, "the longest", check.told(people("mmmmmmm") + "hold 1; time 99; pick 99; fall front;"),
            1881L * 111111, 1, 0, 1, 2, 3, 4, 5, 6);
        long above = 0;
        long below = 1;
        for (int i = 0; i < 6; i++) {
            above = above * 10 + 100 * below;
            below *= 7;
        }
        dueLeast(check, "the greatest below", check.told(people("mmmmmmm") + "hold 7; time 10; pick 0; fall front;"),
            above, below, 0, 1, 2, 3, 4, 5, 6);
        dueLeast(check, "nobody", new ChinRow(), 0, 1);
        dueLeast(check, "one, whatever the law", check.told(people("m") + "hold 0; turns; fall front;"), 0, 1, 0);
    }

    private static void places(Check check) {
        ChinRow row = check.told(people("mwmwmwm"));
        for (int k = 0; k < 7; k++) check.due("place " + k, row.least(2 + k), k);
        check.due("place 7", row.least(9), -1);
        check.due("what -1", row.least(-1), -1);
        for (int far : Edges.FAR) check.due("what " + far, row.least(far), -1);
        row.out(3, true);
        check.due("place 3 without 3", row.least(5), 4);
        check.due("place 5 without 3", row.least(7), 6);
        check.due("place 6 without 3", row.least(8), -1);
        row = new ChinRow();
        for (int what = -1; what < 10; what++) check.due("what " + what + " of nobody", row.least(what), what == 0 ? 0 : what == 1 ? 1 : -1);
    }

    private static void noOrder(Check check) {
        String[] texts = {people("mw") + "hold 0;", people("mw") + "quarrel a b;", people("mm") + "turns;",
            "man a shy tall 1 neck 1; woman b shy tall 1 neck 1; hold 10;"};
        int[] orders = {2, 0, 0, 2};
        for (int i = 0; i < texts.length; i++) {
            ChinRow row = check.told(texts[i]);
            for (int what = -1; what < 10; what++) check.due("least(" + what + ") of '" + texts[i] + "'", row.least(what), -1);
            check.due("orders all the same", row.orders(), orders[i]);
        }
        // One who can't take it (neck 0) must be the first; two such leave no ORDER with a MEAN.
        String hard = "man a plain tall 0 neck 9; woman b plain tall 0 neck 0; man c plain tall 0 neck 9; hold neck; pick 0; ";
        dueLeast(check, "one who can't take it", check.told(hard), 20, 1, 1, 0, 2);
        dueLeast(check, "he quarrels with a", check.told(hard + "quarrel b a;"), 20, 1, 1, 2, 0);
        check.due("he quarrels with both", check.told(hard + "quarrel b a; quarrel b c;").least(0), -1);
        check.due("two who can't", check.told(hard + "man d plain tall 0 neck 0;").least(0), -1);
        // To b nothing comes, and straight from b to c hardly anything, or nothing: only b a c has a MEAN to speak of.
        for (int less : new int[] {9, 10}) {
            for (String law : new String[] {"", "fall front;"}) {
                ChinRow middle = check.told("man a plain tall 10 neck 9; man b plain tall 0 neck 0; man c plain tall 20 neck 9; "
                    + "hold (0 < neck) * (10 - (15 < step) * " + less + ");" + law);
                dueLeast(check, "by the middle", middle, 18, 1, 1, 0, 2);
            }
        }
        ChinRow row = check.told(people("mwm") + "fruit p size 0 slip 0; fruit q size 9 slip 0; hold 10 - pace * 5 - size; time 1; pick 0;");
        dueLeast(check, "pace 0", row, 2, 1, 0, 1, 2);
        row.pace(2);
        dueLeast(check, "pace 2", row);
        row.pace(1);
        dueLeast(check, "pace 1", row, 4, 1, 0, 1, 2);
        row.fruit(1);
        dueLeast(check, "pace 1 with q", row);
        row.pace(0);
        dueLeast(check, "pace 0 with q", row, 20, 1, 0, 1, 2);
    }

    private static void howMany(Check check) {
        dueOrders(check, "", 1);
        check.due("of a new object", new ChinRow().orders(), 1);
        dueOrders(check, people("mwmwmwm"), 5040);
        dueOrders(check, people("mw") + "quarrel a b;", 0);
        ChinRow row = check.told(people("mwm") + "hold 0;");
        check.due("with no chance", row.orders(), 6);
        check.due("once more", row.orders(), 6);
        row.change(0, 2);
        check.due("changed", row.orders(), 6);
    }

    private static void bestOfEqual(Check check) {
        String two = people("mw");
        String fruits = "fruit p size 4 slip 5; fruit q size 8 slip 5; fruit r size 8 slip 5; fruit s size 4 slip 2; ";
        check.due("all equal", check.told(two + fruits + "hold 5;").best(), 0);
        check.due("the second and the third", check.told(two + fruits + "hold size;").best(), 1);
        check.due("the last", check.told(two + fruits + "hold 9 - slip;").best(), 3);
        check.due("only one", check.told(two + "fruit p size 1 slip 1;").best(), 0);
        // 20 / 4 and 40 / 8 are equal, though not above and below.
        check.due("equal in other terms", check.told(two + fruits + "hold size; time 10 + (size = 8) * 10; pick 0;").best(), 0);
        ChinRow row = check.told(two + fruits + "hold size; time 10 + (size = 8) * 9; pick 0;");
        check.due("a little less", row.best(), 1);
        row.fruit(3);
        check.due("whatever the fruit is", row.best(), 1);
        check.due("and it stays", row.count(3), 3);
        row.out(0, true);
        check.due("with no pass all are equal", row.best(), 0);
        row.out(1, true);
        check.due("with nobody, too", row.best(), 0);
        check.due("fruits without people", check.told(fruits).best(), 0);
    }

    private static void noneHasMean(Check check) {
        String fruits = "fruit p size 0 slip 5; fruit q size 0 slip 6; fruit r size 1 slip 9; ";
        check.due("none", check.told(people("mw") + fruits + "hold 0;").best(), -1);
        check.due("but one", check.told(people("mw") + fruits + "hold size;").best(), 2);
        check.due("but two", check.told(people("mw") + fruits + "hold slip - 5;").best(), 2);
        ChinRow row = check.told("man a shy tall 1 neck 1; woman b shy tall 1 neck 1;" + fruits + "hold 10;");
        check.due("both are shy", row.best(), -1);
        row.out(0, true);
        check.due("one out", row.best(), 0);
    }

    private static void noFruit(Check check) {
        check.due("a new object", new ChinRow().best(), -1);
        check.due("people alone", check.told(people("mw")).best(), -1);
        check.due("one alone", check.told(people("m")).best(), -1);
        ChinRow row = check.told(people("mw") + "fruit p size 1 slip 1;");
        check.due("with one", row.best(), 0);
        check.read(row, people("mw"), 0);
        check.due("behind a party without", row.best(), -1);
    }
}
