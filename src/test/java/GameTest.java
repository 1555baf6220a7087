/** Promises 18 to 24: bought, hurry, laughs, outer, even, let, evening. */
public final class GameTest {
    private static final Check CHECK = new Check("GameTest");
    private static final String THREE = "man a plain tall 1 neck 0; woman b plain tall 1 neck 9; man c plain tall 1 neck 6; ";

    public static void main(String[] args) {
        bought();
        boughtCut();
        hurry();
        hurryPace();
        hurryFar();
        hurryWrong();
        laughs();
        outer();
        even();
        evenLinks();
        let();
        evening();
        eveningEnds();
        CHECK.end();
    }

    private static void dueBought(ChinRow row, int fruits, int due) {
        CHECK.due("bought(" + fruits + ")", row.bought(fruits), due);
    }

    private static void bought() {
        ChinRow there = CHECK.told(THREE + "hold 5;");
        dueBought(there, 1, 250000);
        dueBought(there, 2, 500000);
        dueBought(there, 3, 687500);
        ChinRow front = CHECK.told(THREE + "hold 5; fall front;");
        dueBought(front, 1, 250000);
        dueBought(front, 2, 437500);
        dueBought(front, 3, 578125);
        for (int wrong : new int[] {0, 21, -1, Integer.MIN_VALUE, Integer.MAX_VALUE}) dueBought(front, wrong, -1);
        front.pace(2);
        dueBought(front, 2, 437500);
        dueBought(new ChinRow(), 1, 1000000);
        dueBought(new ChinRow(), 20, 1000000);
        dueBought(new ChinRow(), 0, -1);
        dueBought(new ChinRow(), 21, -1);
        ChinRow never = CHECK.told(THREE + "hold neck - 6;");
        dueBought(never, 20, 0);
        never.out(2, true);
        dueBought(never, 1, 300000);
        dueBought(never, 2, 510000);
        never.out(1, true);
        dueBought(never, 1, 1000000);
        ChinRow sure = CHECK.told(THREE + "hold 10;");
        dueBought(sure, 1, 1000000);
        dueBought(sure, 20, 1000000);
        ChinRow pace = CHECK.told(THREE + "hold 10 - pace * 2;");
        pace.pace(1);
        dueBought(pace, 1, 640000);
    }

    private static void boughtCut() {
        ChinRow row = CHECK.told("man a plain tall 1 neck 1; man b plain tall 1 neck 1; man c plain tall 1 neck 1; man d plain tall 1 neck 1; "
            + "man e plain tall 1 neck 1; man f plain tall 1 neck 1; man g plain tall 1 neck 1; hold 1; fall front;");
        dueBought(row, 1, 1);
        dueBought(row, 2, 1); // of 999,999 there are 99,999, 9,999, 999, 99, 9 and none
        int left = 1000000;
        int through = 0;
        ChinRow one = CHECK.told("man a plain tall 1 neck 1; man b plain tall 1 neck 1; hold 7;");
        for (int fruits = 1; fruits <= 20; fruits++) {
            int held = left * 7 / 10;
            through += held;
            left -= held;
            dueBought(one, fruits, through);
        }
    }

    private static void dueHurry(ChinRow row, int ours, int theirs, int chance, int win, int pace) {
        String args = ours + ", " + theirs + ", " + chance;
        CHECK.due("hurry(" + args + ", false)", row.hurry(ours, theirs, chance, false), win);
        CHECK.due("hurry(" + args + ", true)", row.hurry(ours, theirs, chance, true), pace);
    }

    private static void hurry() {
        for (String law : new String[] {"", "fall front;"}) {
            ChinRow row = CHECK.told(THREE + "hold 5; " + law);
            dueHurry(row, 1, 1, 5, 500000, 0);
            dueHurry(row, 1, 2, 5, 833333, 0);
            dueHurry(row, 2, 1, 5, 166666, 0);
            dueHurry(row, 2, 2, 5, 499999, 0);
        }
        ChinRow sure = CHECK.told(THREE + "hold 10;");
        dueHurry(sure, 1, 1, 10, 500000, 0);
        dueHurry(sure, 2, 1, 10, 0, 0);
        dueHurry(sure, 2, 2, 10, 500000, 0);
        dueHurry(sure, 2, 9, 10, 1000000, 0);
        ChinRow never = CHECK.told(THREE + "hold 0;");
        dueHurry(never, 1, 9, 1, 0, 0);
        ChinRow last = CHECK.told(THREE + "hold neck;"); // the last one 6, the first one 9
        dueHurry(last, 1, 1, 5, (30 * 500000 + 30 * 1000000) / 80, 0);
        last.change(1, 2);
        dueHurry(last, 1, 1, 5, (45 * 500000 + 45 * 1000000) / 95, 0);
    }

    private static void hurryPace() {
        ChinRow rise = CHECK.told(THREE + "hold 3 + pace * 2;");
        dueHurry(rise, 1, 1, 5, 710526, 3);
        ChinRow third = CHECK.told(THREE + "hold 1 + (pace = 2) * 5;");
        dueHurry(third, 1, 1, 5, 562500, 2);
        third.pace(3);
        dueHurry(third, 1, 1, 5, 562500, 2);
        ChinRow tie = CHECK.told(THREE + "hold 1 + (0 < pace) * 5;");
        dueHurry(tie, 1, 1, 5, 562500, 1);
        ChinRow each = CHECK.told(THREE + "hold (neck = 9) * (pace = 1) * 5 + (neck = 6) * (pace = 3) * 5;");
        dueHurry(each, 1, 1, 5, 500000, 3);
        dueHurry(each, 2, 1, 5, 166666, 1);
        dueHurry(each, 2, 2, 5, 499999, 1);
        ChinRow fruit = CHECK.told(THREE + "fruit p size 1 slip 1; fruit q size 1 slip 5; hold slip;");
        fruit.fruit(1);
        dueHurry(fruit, 1, 1, 5, 500000, 0);
    }

    private static void hurryFar() {
        ChinRow row = CHECK.told("man a plain tall 1 neck 1; man b plain tall 1 neck 1; man c plain tall 1 neck 1; man d plain tall 1 neck 1; "
            + "man e plain tall 1 neck 1; man f plain tall 1 neck 1; man g plain tall 1 neck 1; hold 10 - pace;");
        for (int ours = 1; ours <= 6; ours++) {
            for (int theirs = 1; theirs <= 9; theirs++) {
                dueHurry(row, ours, theirs, 10, ours < theirs ? 1000000 : ours == theirs ? 500000 : 0, 0);
            }
        }
        dueHurry(row, 7, 9, 10, -1, -1);
    }

    private static void hurryWrong() {
        ChinRow row = CHECK.told(THREE);
        int[][] wrong = {{0, 1, 5}, {3, 1, 5}, {-1, 1, 5}, {1, 0, 5}, {1, 10, 5}, {1, 1, 0}, {1, 1, 11}, {1, 1, -1},
            {Integer.MAX_VALUE, 1, 5}, {1, Integer.MIN_VALUE, 5}, {1, 1, Integer.MAX_VALUE}};
        for (int[] w : wrong) dueHurry(row, w[0], w[1], w[2], -1, -1);
        row.out(0, true);
        dueHurry(row, 2, 1, 5, -1, -1);
        row.out(1, true);
        dueHurry(row, 1, 1, 5, -1, -1);
        dueHurry(row, 0, 1, 5, -1, -1);
        dueHurry(new ChinRow(), 1, 1, 5, -1, -1);
    }

    private static final String FIVE = "man a plain tall 10 neck 1; woman b beard tall 20 neck 0; man c plain tall 40 neck 2; "
        + "woman d shy tall 45 neck 3; man e cold tall 50 neck 4; ";

    private static void laughs() {
        ChinRow all = CHECK.told(FIVE);
        int[] due = {7, 7, 7, 31, 16};
        for (int i = 0; i < 5; i++) CHECK.due("laughs(" + i + ")", all.laughs(i), due[i]);
        CHECK.due("laughs(5)", all.laughs(5), -1);
        CHECK.due("laughs(-1)", all.laughs(-1), -1);
        CHECK.due("laughs(MIN)", all.laughs(Integer.MIN_VALUE), -1);
        all.out(3, true);
        CHECK.due("laughs(0) without d", all.laughs(0), 23);
        CHECK.due("laughs(3) out", all.laughs(3), -1);
        all.change(1, 4);
        all.out(3, false);
        CHECK.dueRow("change", all, "04231");
        CHECK.due("laughs(0) changed", all.laughs(0), 21);
        ChinRow neck = CHECK.told(FIVE + "laugh neck;");
        CHECK.due("it is the neck of who sees it, right", neck.laughs(0), 1);
        CHECK.due("it is the neck of who sees it, left", neck.laughs(1), 7);
        ChinRow step = CHECK.told(FIVE + "laugh step < 20;");
        CHECK.due("step < 20 from b", step.laughs(1), 3);
        CHECK.due("step < 20 from d", step.laughs(3), 28);
        CHECK.due("nobody laughs with", CHECK.told(FIVE + "laugh 0;").laughs(2), 4);
        CHECK.due("less than 0 is so, too", CHECK.told(FIVE + "laugh 0 - 1;").laughs(2), 7);
        ChinRow stoops = CHECK.told("man a stoops tall 1 neck 1; man b plain tall 90 neck 1; laugh step;");
        CHECK.due("who stoops is as tall all the same", stoops.laughs(0), 3);
        CHECK.due("laughs of nobody", new ChinRow().laughs(0), -1);
    }

    private static void outer() {
        ChinRow all = CHECK.told(FIVE);
        CHECK.due("outer(0)", all.outer(0), 1); // 0 2; any other leaves 0 1 or more
        CHECK.due("outer(1)", all.outer(1), 0);
        CHECK.due("outer(3)", all.outer(3), 0);
        CHECK.due("outer(4)", all.outer(4), 0);
        CHECK.due("outer(5)", all.outer(5), -1);
        CHECK.due("outer(-1)", all.outer(-1), -1);
        ChinRow step = CHECK.told(FIVE + "laugh step < 21;");
        CHECK.due("outer: without b a laughs alone", step.outer(0), 1);
        CHECK.due("outer: it is the first of the row", step.outer(4), 0);
        step.change(0, 4);
        CHECK.dueRow("change", step, "41230");
        CHECK.due("outer: without c nobody laughs with d", step.outer(3), 2);
        CHECK.due("outer: the first of the changed row", step.outer(0), 4);
        all.out(1, true);
        CHECK.due("outer out", all.outer(1), -1);
        all.out(2, true);
        all.out(3, true);
        CHECK.due("outer of two", all.outer(0), 4);
        all.out(4, true);
        CHECK.due("outer with nobody else", all.outer(0), -1);
        CHECK.due("outer of nobody", new ChinRow().outer(0), -1);
    }

    private static String talls(int... talls) {
        StringBuilder text = new StringBuilder();
        for (int i = 0; i < talls.length; i++) {
            text.append("man ").append((char) ('a' + i)).append(" plain tall ").append(talls[i]).append(" neck 1; ");
        }
        return text.toString();
    }

    private static void dueEven(String text, int difference, int set) {
        ChinRow row = CHECK.told(text);
        CHECK.due("even(0) of " + text, row.even(0), difference);
        CHECK.due("even(1) of " + text, row.even(1), set);
        CHECK.due("even(2)", row.even(2), -1);
        CHECK.due("even(-1)", row.even(-1), -1);
        CHECK.due("even(MAX)", row.even(Integer.MAX_VALUE), -1);
    }

    private static void even() {
        dueEven("", -1, -1);
        dueEven(talls(7), 7, 1);
        dueEven(talls(0), 0, 1);
        dueEven(talls(7, 9), 2, 1);
        dueEven(talls(9, 7), 2, 1);
        dueEven(talls(10, 40, 30), 0, 5);
        dueEven(talls(10, 45, 30), 5, 5);
        dueEven(talls(10, 20, 30), 0, 3);
        dueEven(talls(1, 1, 1, 1), 0, 3);
        dueEven(talls(5, 5, 0), 0, 1);
        dueEven(talls(99, 99, 99, 99, 99, 99, 99), 99, 7);
        dueEven(talls(64, 32, 16, 8, 4, 2, 1), 1, 1);
        ChinRow row = CHECK.told(talls(10, 20, 30));
        row.out(2, true);
        CHECK.due("even with one out", row.even(1), 3);
    }

    private static void evenLinks() {
        dueEven(talls(10, 20, 30) + "pair a c;", 20, 5);
        dueEven(talls(10, 20, 30) + "quarrel a b;", 20, 5);
        dueEven(talls(10, 20, 30) + "quarrel a b; quarrel a c;", 40, 1);
        dueEven(talls(10, 20, 30) + "quarrel a b; quarrel a c; quarrel b c;", -1, -1);
        dueEven(talls(10, 20, 30) + "pair a b; pair b c; quarrel a c;", -1, -1);
        dueEven(talls(10, 20, 30) + "pair a b; pair b c;", 60, 7);
        dueEven(talls(10, 20, 30, 40) + "pair b c;", 0, 9);
        dueEven(talls(10, 20, 30, 40) + "quarrel b c; quarrel c d;", 20, 5);
    }

    private static void dueLet(int held, int fell, int one, int other, long above, long below) {
        String args = held + ", " + fell + ", " + one + ", " + other;
        ChinRow row = new ChinRow();
        CHECK.due("let(" + args + ", 0)", row.let(held, fell, one, other, 0), above);
        CHECK.due("let(" + args + ", 1)", row.let(held, fell, one, other, 1), below);
        CHECK.due("let(" + args + ", 2)", row.let(held, fell, one, other, 2), -1);
        CHECK.due("let(" + args + ", -1)", row.let(held, fell, one, other, -1), -1);
    }

    private static void let() {
        dueLet(2, 1, 8, 3, 63, 191);
        dueLet(0, 0, 9, 1, 1, 2);
        dueLet(0, 1, 9, 1, 9, 10);
        dueLet(1, 0, 9, 1, 1, 10);
        dueLet(1, 1, 4, 6, 1, 2);
        dueLet(8, 0, 9, 9, 1, 2);
        dueLet(8, 0, 1, 9, 43046721, 43046722);
        dueLet(0, 8, 1, 9, 1, 43046722);
        dueLet(0, 8, 6, 2, 256, 257); // 8 of ten against 4 of ten, eight times
        int[][] wrong = {{9, 0, 5, 5}, {0, 9, 5, 5}, {5, 4, 5, 5}, {-1, 1, 5, 5}, {1, -1, 5, 5}, {1, 1, 0, 5}, {1, 1, 10, 5},
            {1, 1, 5, 0}, {1, 1, 5, 10}, {Integer.MAX_VALUE, 1, 5, 5}, {Integer.MAX_VALUE, Integer.MAX_VALUE, 5, 5},
            {Integer.MIN_VALUE, Integer.MIN_VALUE, 5, 5}, {1, Integer.MIN_VALUE, 5, 5}, {1, 1, Integer.MIN_VALUE, 5}};
        for (int[] w : wrong) dueLet(w[0], w[1], w[2], w[3], -1, -1);
    }

    private static void dueEvening(ChinRow row, int seed, int... due) {
        for (int i = 0; i < 4; i++) CHECK.due("evening(" + seed + ", " + i + ")", row.evening(seed, i), due[i]);
        CHECK.due("evening(" + seed + ", 4)", row.evening(seed, 4), -1);
        CHECK.due("evening(" + seed + ", -1)", row.evening(seed, -1), -1);
    }

    // By seed 1 the draws below 10 are 8 8 3 5 1 7 0 9 2 6.
    private static void evening() {
        dueEvening(CHECK.told(THREE + "hold neck;"), 1, 3 * 9 + 3, 3, 1, 2);
        dueEvening(CHECK.told(THREE + "hold neck; fall front;"), 1, 4 * 9 + 3, 4, 1, 2);
        dueEvening(CHECK.told(THREE + "hold 5; pick 20;"), 1, 5 * 9 + 3 * 20, 5, 3, 2);
        dueEvening(CHECK.told(THREE + "hold 8; time neck;"), 1, 9 + 9 + 9 + 3 + 3 + 6, 4, 2, 2);
        ChinRow row = CHECK.told(THREE + "hold 8 - pace; pick 0; time pace * 7;");
        row.pace(3);
        row.change(0, 2);
        dueEvening(row, 1, 5 * 21, 5, 3, 0);
        dueEvening(row, 0, 21 * row.evening(0, 1), row.evening(0, 1), row.evening(0, 1) - 2, 0);
        for (int seed : new int[] {-1, 10000, Integer.MIN_VALUE, Integer.MAX_VALUE}) dueEvening(row, seed, -1, -1, -1, -1);
        CHECK.due("the greatest seed", row.evening(9999, 3), 0);
    }

    private static void eveningEnds() {
        ChinRow never = CHECK.told(THREE + "hold 0;");
        dueEvening(never, 77, 200 * 12, 200, 200, 0);
        ChinRow half = CHECK.told(THREE + "hold neck - 6; pick 1; time 2;");
        int tries = 200;
        int falls = half.evening(5, 2);
        dueEvening(half, 5, 2 * tries + falls, tries, 199, 1);
        half.out(2, true);
        half.out(1, true);
        dueEvening(half, 5, 0, 0, 0, 0);
        half.out(0, true);
        dueEvening(half, 5, -1, -1, -1, -1);
        dueEvening(new ChinRow(), 0, -1, -1, -1, -1);
    }
}
