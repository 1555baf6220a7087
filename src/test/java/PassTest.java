/** Promises 11 to 14: chance, seconds, mean, falls. */
public final class PassTest {
    private static final Check CHECK = new Check("PassTest");
    private static final String SIX = "man a plain tall 10 neck 1; woman b beard tall 20 neck 2; man c pearls tall 40 neck 3; "
        + "woman d shy tall 70 neck 4; man e stoops tall 90 neck 5; woman f cold tall 95 neck 6; ";

    public static void main(String[] args) {
        kindsOfPass();
        alikes();
        limits();
        facts();
        without();
        laws();
        seconds();
        wrongPasses();
        mean();
        meanOfFew();
        meanByHand();
        falls();
        CHECK.end();
    }

    private static void kindsOfPass() {
        ChinRow row = CHECK.told(SIX + "hold 5;");
        // from: plain, beard, pearls, shy, stoops, cold; to: the same
        int[][] due = {{0, 7, 3, 4, 5, 4}, {7, 0, 5, 6, 7, 6}, {3, 5, 0, 2, 3, 2}, {4, 6, 2, 0, 4, 3}, {5, 7, 3, 4, 0, 4},
            {5, 7, 3, 4, 5, 0}};
        for (int i = 0; i < 6; i++) {
            for (int k = 0; k < 6; k++) {
                CHECK.due("chance(" + i + ", " + k + ", 0)", row.chance(i, k, 0), i == k ? -1 : due[i][k]);
            }
        }
        row.out(0, true);
        CHECK.due("chance from one who is out", row.chance(0, 1, 0), 7);
    }

    private static void alikes() {
        int[] due = {5, 7, 3, 0, 5, 4};
        for (int i = 0; i < 6; i++) {
            String kind = Model.KINDS.get(i);
            ChinRow row = CHECK.told("man a " + kind + " tall 1 neck 1; man b " + kind + " tall 9 neck 1; hold 5; time 7;");
            CHECK.due("chance of two: " + kind, row.chance(0, 1, 3), due[i]);
            CHECK.due("seconds of two: " + kind, row.seconds(0, 1, 3), i == 1 ? 14 : 7);
        }
    }

    private static void limits() {
        chanceOf("20", "plain", "pearls", 8);
        chanceOf("20", "beard", "plain", 10);
        chanceOf("0 - 5", "plain", "beard", 2);
        chanceOf("0 - 5", "plain", "plain", 0);
        chanceOf("1", "pearls", "plain", 0);
        chanceOf("1", "pearls", "beard", 1);
        chanceOf("10", "beard", "shy", 10);
        chanceOf("10", "shy", "shy", 0);
        chanceOf("9", "beard", "cold", 10);
        chanceOf("10", "beard", "pearls", 10);
        chanceOf("0", "pearls", "beard", 0);
    }

    private static void chanceOf(String hold, String from, String to, int due) {
        ChinRow row = CHECK.told("man a " + from + " tall 1 neck 1; woman b " + to + " tall 1 neck 1; hold " + hold + ";");
        CHECK.due("chance by " + hold + " from " + from + " to " + to, row.chance(0, 1, 0), due);
    }

    private static void facts() {
        ChinRow row = CHECK.told("man a plain tall 3 neck 7; woman b plain tall 8 neck 2; man c stoops tall 9 neck 4; "
            + "fruit p size 6 slip 1; fruit q size 0 slip 9; hold step; time neck * 10 + step;");
        CHECK.due("step up", row.chance(0, 1, 0), 5);
        CHECK.due("step down", row.chance(1, 0, 0), 5);
        CHECK.due("who stoops gives", row.chance(2, 0, 0), 0);
        CHECK.due("who stoops takes", row.chance(0, 2, 0), 0);
        CHECK.due("the taker's neck", row.seconds(0, 1, 0), 25);
        CHECK.due("the other taker's", row.seconds(1, 0, 0), 75);
        CHECK.due("the step as it is", row.seconds(0, 2, 0), 46);
        row = CHECK.told("man a plain tall 3 neck 7; woman b plain tall 8 neck 2; fruit p size 6 slip 1; "
            + "fruit q size 0 slip 9; hold size + slip; time size * 10 + slip + pace * 20;");
        CHECK.due("size and slip", row.chance(0, 1, 0), 7);
        CHECK.due("in time", row.seconds(0, 1, 1), 81);
        row.fruit(1);
        CHECK.due("of the other fruit", row.chance(0, 1, 0), 9);
        CHECK.due("in time", row.seconds(0, 1, 3), 69);
    }

    private static void without() {
        ChinRow row = CHECK.told("man a plain tall 3 neck 7; woman b plain tall 8 neck 2;");
        for (int pace = 0; pace < 4; pace++) {
            CHECK.due("chance without hold", row.chance(0, 1, pace), 8 - pace);
            CHECK.due("seconds without time", row.seconds(0, 1, pace), 9 - 2 * pace);
        }
        row = CHECK.told("man a plain tall 3 neck 7; woman b plain tall 8 neck 2; hold 3 + size + slip; time 4 + size * slip;");
        CHECK.due("chance without a fruit", row.chance(0, 1, 0), 3);
        CHECK.due("seconds without a fruit", row.seconds(0, 1, 0), 4);
    }

    private static void laws() {
        law("2 + 3 * 4", 14);
        law("(2 + 3) * 4", 20);
        law("20 - 3 - 2", 15);
        law("20 - (3 - 2)", 19);
        law("2 * 3 - 1 * 4 + 9", 11);
        law("not 0 + 5", 6);
        law("not (5 = 5) + 7", 7);
        law("not not 8 + 1", 2);
        law("not 3 * 4 + 2", 2);
        law("50 + (1 or 1 and 0)", 50);
        law("50 + (0 and 1 or 1)", 51);
        law("50 + (0 and (1 or 1))", 50);
        law("50 + (7 and 9)", 51);
        law("50 + (0 or 9)", 51);
        law("50 + (3 < 2 + 2)", 51);
        law("50 + (3 + 1 < 2 + 2)", 50);
        law("50 + (3 + 1 = 2 * 2)", 51);
        law("50 + (2 < 1 and 0 or 3 = 3)", 51);
        law("50 + (0 - 1 < 0)", 51);
        law("50 + (not 0 = 1)", 51);
        law("50 + ((1 = 1) = 1)", 51);
        law("0 or 60", 1);
        law("50 + (9999 * 9999 * 9999 < 0)", 9999 * 9999 * 9999 < 0 ? 51 : 50);
        law("50 + (9999 * 9999 * 9999 * 7 < 0)", 9999 * 9999 * 9999 * 7 < 0 ? 51 : 50);
        law("50 + (9999 * 9999 * 50 - 9999 * 9999 * 49 = 9998 * 9999 + 9999)", 51);
        law("0000 + 0042", 42);
        law("9999", 99);
        law("99", 99);
        law("100", 99);
        law("1", 1);
        law("0", 1);
        law("1 - 9999", 1);
    }

    private static void law(String law, int due) {
        ChinRow row = CHECK.told("man a plain tall 1 neck 1; woman b plain tall 1 neck 1; time " + law + ";");
        CHECK.due("seconds by " + law, row.seconds(0, 1, 0), due);
    }

    private static void seconds() {
        ChinRow row = CHECK.told("man a beard tall 1 neck 1; woman b beard tall 99 neck 1; man c plain tall 0 neck 0; time step * 2;");
        CHECK.due("twice the most", row.seconds(0, 1, 0), 198);
        CHECK.due("with one beard", row.seconds(0, 2, 0), 2);
        row = CHECK.told("man a beard tall 1 neck 1; woman b beard tall 1 neck 1; time 0;");
        CHECK.due("twice the least", row.seconds(1, 0, 0), 2);
    }

    private static void wrongPasses() {
        ChinRow row = CHECK.told(SIX);
        int[][] wrong = {{0, 0, 0}, {0, 6, 0}, {6, 0, 0}, {-1, 0, 0}, {0, -1, 0}, {0, 1, -1}, {0, 1, 4},
            {Integer.MIN_VALUE, 0, 0}, {0, Integer.MAX_VALUE, 0}, {0, 1, Integer.MIN_VALUE}};
        for (int[] w : wrong) {
            CHECK.due("chance of a wrong pass", row.chance(w[0], w[1], w[2]), -1);
            CHECK.due("seconds of a wrong pass", row.seconds(w[0], w[1], w[2]), -1);
        }
        CHECK.due("chance of nobody", new ChinRow().chance(0, 1, 0), -1);
        CHECK.due("seconds of nobody", new ChinRow().seconds(0, 1, 0), -1);
    }

    private static final String THREE = "man a plain tall 1 neck 0; woman b plain tall 1 neck 9; man c plain tall 1 neck 5; ";

    private static void mean() {
        dueMean("there", CHECK.told(THREE + "hold neck;"), 94, 3); // (90 + 3) / 9 + (90 + 15) / 5
        dueMean("there, told", CHECK.told(THREE + "hold neck; fall there; pick 3;"), 94, 3);
        dueMean("front", CHECK.told(THREE + "hold neck; fall front;"), 125, 3); // (10 * (31 / 3 + 9) + 15) / 5
        dueMean("without pick", CHECK.told(THREE + "hold neck; pick 0;"), 28, 1);
        dueMean("for sure", CHECK.told(THREE + "hold 10; fall front; pick 99;"), 18, 1);
        dueMean("a chance of 0", CHECK.told(THREE + "hold neck - 5;"), -1, -1);
        ChinRow worst = CHECK.told("man a beard tall 0 neck 0; man b beard tall 99 neck 0; man c beard tall 0 neck 0; "
            + "man d beard tall 99 neck 0; man e beard tall 0 neck 0; man f beard tall 99 neck 0; man g beard tall 0 neck 0; "
            + "hold 0; time 99; fall front; pick 99;");
        long due = 0; // each chance is 2 of ten
        for (int i = 0; i < 6; i++) due = due * 5 + (10 * 198 + 8 * 99) / 2;
        dueMean("the longest", worst, due, 1);
    }

    private static void dueMean(String what, ChinRow row, long above, long below) {
        CHECK.due("mean " + what + ", above", row.mean(0), above);
        CHECK.due("mean " + what + ", below", row.mean(1), below);
        CHECK.due("mean(2)", row.mean(2), -1);
        CHECK.due("mean(-1)", row.mean(-1), -1);
    }

    private static void meanOfFew() {
        dueMean("of nobody", new ChinRow(), 0, 1);
        ChinRow row = CHECK.told(THREE + "hold 0;");
        dueMean("of three", row, -1, -1);
        row.out(0, true);
        row.out(2, true);
        dueMean("of one", row, 0, 1);
        row.out(1, true);
        dueMean("of none", row, 0, 1);
    }

    private static void meanByHand() {
        ChinRow row = CHECK.told(THREE + "fruit p size 1 slip 1; fruit q size 2 slip 2; hold 10 - slip - pace; time size * 5 + neck;");
        dueMean("with p", row, 246 / 3, 9 / 3); // (140 + 3 + 100 + 3) / 9: chances 9; seconds 14, 10
        row.fruit(1);
        dueMean("with q", row, (190 + 6 + 150 + 6) / 8, 1); // chances 8; seconds 19, 15
        row.pace(3);
        dueMean("in a hurry", row, (190 + 15 + 150 + 15) / 5, 1); // chances 5
        row.out(1, true);
        dueMean("without b", row, 33, 1);
        row.change(0, 2);
        dueMean("the other way", row, (100 + 15) / 5, 1);
        row.undo();
        row.undo();
        row.undo();
        row.undo();
        dueMean("undone", row, 82, 3);
    }

    private static void falls() {
        ChinRow row = CHECK.told(THREE + "hold neck; fall front;");
        dueFalls(row, 0, 1, 10);
        dueFalls(row, 1, 9, 20);
        dueFalls(row, -1, 9, 20);
        dueFalls(row, 2, -1, -1);
        dueFalls(row, -2, -1, -1);
        dueFalls(row, Integer.MAX_VALUE, -1, -1);
        dueFalls(row, Integer.MIN_VALUE, -1, -1);
        row.change(1, 2);
        dueFalls(row, 0, 1, 2);
        dueFalls(row, 1, 1, 20);
        row = CHECK.told(THREE + "hold neck - 5;");
        dueFalls(row, 0, 3, 5);
        dueFalls(row, 1, 2, 5);
        dueFalls(row, -1, 0, 1);
        row.pace(3);
        row = CHECK.told(THREE + "hold 10 - pace * 2;");
        dueFalls(row, 0, 0, 1);
        dueFalls(row, -1, 1, 1);
        row.pace(1);
        dueFalls(row, 1, 4, 25);
        dueFalls(new ChinRow(), -1, 1, 1);
        dueFalls(new ChinRow(), 0, -1, -1);
        row.out(0, true);
        row.out(1, true);
        dueFalls(row, -1, 1, 1);
        dueFalls(row, 0, -1, -1);
    }

    private static void dueFalls(ChinRow row, int i, long above, long below) {
        CHECK.due("falls(" + i + ", 0)", row.falls(i, 0), above);
        CHECK.due("falls(" + i + ", 1)", row.falls(i, 1), below);
        CHECK.due("falls(" + i + ", 2)", row.falls(i, 2), -1);
        CHECK.due("falls(" + i + ", -1)", row.falls(i, -1), -1);
    }
}
