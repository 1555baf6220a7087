/** Promises 15 to 17: least, orders, best. */
public final class OrderTest {
    private static final Check CHECK = new Check("OrderTest");

    public static void main(String[] args) {
        orders();
        ordersOut();
        leastOfSteps();
        leastByLaw();
        leastAndChances();
        leastAndLinks();
        leastFollows();
        leastOfFew();
        best();
        CHECK.end();
    }

    private static String people(String sexes) {
        StringBuilder text = new StringBuilder();
        for (int i = 0; i < sexes.length(); i++) {
            text.append(sexes.charAt(i) == 'm' ? "man " : "woman ").append((char) ('a' + i)).append(" plain tall 1 neck 1; ");
        }
        return text.toString();
    }

    private static void orders() {
        dueOrders("", 1);
        dueOrders(people("m"), 1);
        dueOrders(people("mwm"), 6);
        dueOrders(people("mwmwmwm"), 5040);
        dueOrders(people("m") + "turns;", 1);
        dueOrders(people("mm") + "turns;", 0);
        dueOrders(people("mwm") + "turns;", 2);
        dueOrders(people("mwmw") + "turns;", 8);
        dueOrders(people("mwmwmwm") + "turns;", 144);
        dueOrders(people("mwwmwwm") + "turns;", 144);
        dueOrders(people("mwwwmww") + "turns;", 0);
        dueOrders(people("mwm") + "pair a b;", 4);
        dueOrders(people("mwm") + "quarrel a b;", 2);
        dueOrders(people("mwm") + "pair a b; pair b c;", 2);
        dueOrders(people("mwm") + "pair a b; pair c b; pair a c;", 0);
        dueOrders(people("mwm") + "quarrel a b; quarrel c b;", 0);
        dueOrders(people("mwm") + "pair a c; quarrel a b;", 2);
        dueOrders(people("mwmwmwm") + "pair a b; pair c d;", 4 * 120);
        dueOrders(people("mwmwmwm") + "quarrel g a;", 5040 - 1440);
        dueOrders(people("mwmw") + "turns; pair a c;", 0);
    }

    private static void dueOrders(String text, int due) {
        ChinRow row = CHECK.told(text);
        CHECK.due("orders of '" + text + "'", row.orders(), due);
        CHECK.due("least of it", row.least(0) == -1, due == 0);
    }

    private static void ordersOut() {
        ChinRow row = CHECK.told(people("mwmw") + "pair a c; turns; quarrel b d;");
        CHECK.due("orders", row.orders(), 0);
        row.out(2, true);
        CHECK.due("orders without c", row.orders(), 2);
        row.out(3, true);
        CHECK.due("orders without c and d", row.orders(), 2);
        row.out(2, false);
        CHECK.due("orders without d", row.orders(), 0);
        row.out(0, true);
        row.out(1, true);
        row.out(2, true);
        CHECK.due("orders of nobody", row.orders(), 1);
    }

    private static void dueLeast(String what, ChinRow row, long... due) {
        for (int i = 0; i < due.length; i++) CHECK.due(what + ": least(" + i + ")", row.least(i), due[i]);
        CHECK.due(what + ": least beyond", row.least(due.length), -1);
        CHECK.due(what + ": least(-1)", row.least(-1), -1);
        CHECK.due(what + ": least(MIN)", row.least(Integer.MIN_VALUE), -1);
        CHECK.due(what + ": least(MAX)", row.least(Integer.MAX_VALUE), -1);
    }

    private static void leastOfSteps() {
        ChinRow row = CHECK.told("man a plain tall 0 neck 0; man b plain tall 50 neck 0; man c plain tall 10 neck 0; hold 10; time step;");
        dueLeast("by steps", row, 50, 1, 0, 2, 1);
        row.change(0, 1);
        dueLeast("it goes by numbers, not by the row", row, 50, 1, 0, 2, 1);
        CHECK.dueRow("least", row, "102");
        row.out(2, true);
        dueLeast("without c", row, 50, 1, 0, 1);
        row = CHECK.told(people("mwmwmwm"));
        dueLeast("all alike", row, 6 * (90 + 6) / 8, 1, 0, 1, 2, 3, 4, 5, 6);
    }

    private static void leastByLaw() {
        String three = "man a plain tall 0 neck 9; woman b plain tall 0 neck 5; man c plain tall 0 neck 2; hold neck; pick 0; ";
        dueLeast("there", CHECK.told(three), 28, 1, 2, 0, 1);
        dueLeast("front", CHECK.told(three + "fall front;"), 30, 1, 2, 1, 0);
        dueLeast("front, by turns", CHECK.told(three + "fall front; turns;"), 30, 1, 2, 1, 0);
        dueLeast("front, c behind b", CHECK.told(three + "fall front; quarrel b c;"), 30 + 8, 1, 2, 0, 1);
    }

    private static void leastAndChances() {
        String three = "man a plain tall 0 neck 9; woman b plain tall 0 neck 0; man c plain tall 0 neck 9; hold neck; pick 1; ";
        dueLeast("b can't take", CHECK.told(three), 2 * (90 + 1), 9, 1, 0, 2);
        ChinRow row = CHECK.told(three + "man d plain tall 0 neck 0;");
        dueLeast("neither b nor d can take", row, -1, -1);
        CHECK.due("orders all the same", row.orders(), 24);
        row.out(1, true);
        dueLeast("without b", row, 2 * (90 + 1), 9, 3, 0, 2);
        dueLeast("shy ones are kept apart",
            CHECK.told("man a shy tall 0 neck 0; woman b shy tall 0 neck 0; man c plain tall 0 neck 0; hold 10; pick 0;"), 20, 1, 0, 2, 1);
    }

    private static void leastAndLinks() {
        String four = "man a plain tall 0 neck 0; man b plain tall 10 neck 0; man c plain tall 20 neck 0; man d plain tall 30 neck 0; hold 10; time step; ";
        dueLeast("free", CHECK.told(four), 30, 1, 0, 1, 2, 3);
        dueLeast("pair a d", CHECK.told(four + "pair d a;"), 50, 1, 0, 3, 2, 1);
        dueLeast("quarrel b c", CHECK.told(four + "quarrel c b;"), 40, 1, 0, 1, 3, 2);
        dueLeast("quarrel and pair", CHECK.told(four + "quarrel c b; pair b d;"), 40, 1, 0, 1, 3, 2);
    }

    private static void leastFollows() {
        ChinRow row = CHECK.told("man a plain tall 0 neck 0; man b plain tall 9 neck 0; fruit p size 5 slip 5; fruit q size 9 slip 9; "
            + "hold 10 - pace; time size + pace; pick 10;");
        dueLeast("at first", row, 5, 1, 0, 1);
        row.pace(2);
        dueLeast("in a hurry", row, (70 + 20) / 2, 4, 0, 1);
        row.fruit(1);
        dueLeast("with q", row, (110 + 20) / 2, 4, 0, 1);
        row.undo();
        dueLeast("undone", row, 45, 4, 0, 1);
        row.mark(0, false);
        row.out(0, true);
        dueLeast("without a", row, 0, 1, 1);
        row.mark(0, true);
        dueLeast("back at the mark", row, 45, 4, 0, 1);
        Check.tell(row, "woman x plain tall 1 neck 1; woman y plain tall 1 neck 1; woman z plain tall 1 neck 1; hold 10; time 1;");
        dueLeast("anew", row, 2, 1, 0, 1, 2);
    }

    private static void leastOfFew() {
        dueLeast("nobody", new ChinRow(), 0, 1);
        dueLeast("one", CHECK.told(people("m") + "hold 0;"), 0, 1, 0);
    }

    private static void best() {
        String two = people("mw");
        dueBest("no fruit", CHECK.told(two), -1);
        dueBest("nobody", new ChinRow(), -1);
        dueBest("nobody with fruits", CHECK.told("fruit p size 1 slip 9; fruit q size 1 slip 2;"), 0);
        String fruits = "fruit p size 1 slip 5; fruit q size 1 slip 2; fruit r size 2 slip 2; fruit s size 1 slip 9; ";
        dueBest("by hold", CHECK.told(two + fruits + "hold 9 - slip;"), 1);
        dueBest("by time", CHECK.told(two + fruits + "hold 5; time slip * 2 - size;"), 2);
        dueBest("the last", CHECK.told(two + fruits + "hold slip;"), 3);
        dueBest("none has a mean", CHECK.told(two + fruits + "hold slip - 9;"), -1);
        dueBest("one has a mean", CHECK.told(two + fruits + "hold slip - 8;"), 3);
        ChinRow row = CHECK.told(two + fruits + "hold (pace = 2) * slip + (pace = 0) * (10 - slip);");
        dueBest("pace 0", row, 1);
        row.pace(2);
        dueBest("pace 2", row, 3);
        row.pace(1);
        dueBest("pace 1", row, -1);
        row.out(0, true);
        dueBest("without a pass", row, 0);
        String three = "man a plain tall 0 neck 0; man b plain tall 0 neck 9; man c plain tall 0 neck 4; pick 0; time 9; "
            + "fruit p size 9 slip 4; fruit q size 5 slip 8; hold (neck = 9) * size + (neck = 4) * slip; ";
        dueBest("there", CHECK.told(three), 1); // 10 + 45 / 2 against 18 + 45 / 4
        dueBest("front", CHECK.told(three + "fall front;"), 1);
        String turned = three.replace("size 9 slip 4", "size 4 slip 9").replace("size 5 slip 8", "size 8 slip 4");
        dueBest("there, turned", CHECK.told(turned), 0); // 45 / 2 + 10 against 45 / 4 + 45 / 2
        dueBest("front, turned", CHECK.told(turned + "fall front;"), 0);
        String equal = three.replace("size 9 slip 4", "size 9 slip 5").replace("size 5 slip 8", "size 5 slip 9");
        dueBest("there, equal", CHECK.told(equal), 0);
        dueBest("front, hard one first", CHECK.told(equal + "fall front;"), 1);
    }

    private static void dueBest(String what, ChinRow row, int due) {
        CHECK.due("best: " + what, row.best(), due);
    }
}
