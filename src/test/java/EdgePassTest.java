import java.io.IOException;

/** Edges of a PASS, its CHANCE and SECONDS, of MEAN and FIRST FALL: promises 11 to 14. */
public final class EdgePassTest {
    private static final String TWO = "man a plain tall 1 neck 0; woman b plain tall 1 neck 9; ";
    private static final String THREE = TWO + "man c plain tall 1 neck 5; ";

    public static void main(String[] args) throws IOException {
        Edges edges = new Edges("EdgePassTest");
        chance(edges);
        seconds(edges);
        mean(edges);
        falls(edges);
        edges.end();
    }

    private static void chance(Edges edges) {
        edges.edge("==== 2.", "A PASS is from one of the PEOPLE to another one.", EdgePassTest::another);
        edges.edge("==== 2.", "the E of hold (0 if it is below, 10 above)", EdgePassTest::holdWithin);
        edges.edge("==== 2.", "a beard with one or both of them: 2 more", EdgePassTest::beard);
        edges.edge("==== 2.", "pearls with one or both: 2 less", EdgePassTest::pearls);
        edges.edge("==== 2.", "one who is shy: 1 less", EdgePassTest::shy);
        edges.edge("==== 2.", "the taker is cold: 1 less", EdgePassTest::cold);
        edges.edge("==== 2.", "then 0 to 10", EdgePassTest::chanceWithin);
        edges.edge("==== 2.", "if both are shy 0", EdgePassTest::bothShy);
        edges.edge("==== 2.", "If one of them stoops the step is 0 for it.", EdgePassTest::stoops);
        edges.edge("Promise 11", "CHANCE of a PASS (with a pace, the FRUIT)", EdgePassTest::paceAndFruit);
        edges.edge("Promise 11", "NONE: others, the same.", c -> othersAndSame(c, true));
        edges.edge("Promise 12", "SECONDS, likewise.", c -> othersAndSame(c, false));
    }

    private static void seconds(Edges edges) {
        edges.edge("==== 2.", "the E of time (1 if it is below, 99 above)", EdgePassTest::timeWithin);
        edges.edge("==== 2.", "by the step as it is", EdgePassTest::stepAsItIs);
        edges.edge("==== 2.", "a beard with both: twice that", EdgePassTest::twice);
        edges.edge("==== 2.", "Without FRUIT size and slip are 0.", EdgePassTest::withoutFruit);
    }

    private static void mean(Edges edges) {
        edges.edge("==== 2.", "MEAN of the ROW (who is not OUT, in order)", EdgePassTest::meanOfRow);
        edges.edge("==== 2.", "if it falls, pick more, then it is tried again (there), or all begins with the first PASS (front)", EdgePassTest::bothLaws);
        edges.edge("==== 2.", "NONE if a CHANCE is 0.", EdgePassTest::chanceNought);
        edges.edge("Promise 13", "MEAN, what 0: above, 1: below, in lowest terms", EdgePassTest::lowestMean);
        edges.edge("Promise 13", "(0 / 1 with no PASS)", EdgePassTest::meanWithoutPass);
        edges.edge("Promise 13", "(0 / 1 with no PASS); NONE: others, a CHANCE is 0.", EdgePassTest::otherMeans);
    }

    private static void falls(Edges edges) {
        edges.edge("==== 2.", "the chance that it falls for the first time at a PASS (the ROW's i-th)", EdgePassTest::firstFall);
        edges.edge("==== 2.", "that it never falls (for sure with no PASS).", EdgePassTest::neverFalls);
        edges.edge("Promise 14", "FIRST FALL at the i-th PASS (0 the first; NONE: never)", EdgePassTest::whichPass);
        edges.edge("Promise 14", "(0 the first; NONE: never), what 0: above, 1: below, in lowest terms", EdgePassTest::lowestFalls);
        edges.edge("Promise 14", "in lowest terms; NONE: others.", EdgePassTest::otherFalls);
    }

    private static int chanceOf(Check check, String from, String to, String hold) {
        return check.told("man a " + from + " tall 3 neck 1; woman b " + to + " tall 9 neck 1; hold " + hold + ";").chance(0, 1, 0);
    }

    private static void dueChance(Check check, String from, String to, String hold, int due) {
        check.due("chance from " + from + " to " + to + " by " + hold, chanceOf(check, from, to, hold), due);
    }

    private static void another(Check check) {
        ChinRow row = check.told(THREE + "hold 5; time 5;");
        for (int from = 0; from < 3; from++) {
            for (int to = 0; to < 3; to++) {
                check.due("chance from " + from + " to " + to, row.chance(from, to, 0), from == to ? -1 : 5);
                check.due("seconds from " + from + " to " + to, row.seconds(from, to, 0), from == to ? -1 : 5);
            }
        }
    }

    private static void holdWithin(Check check) {
        int[] values = {-9999, -2, -1, 0, 1, 9, 10, 11, 12, 9999};
        for (int value : values) {
            String hold = value < 0 ? "0 - " + -value : "" + value;
            int held = Math.max(0, Math.min(10, value));
            dueChance(check, "plain", "plain", hold, held);
            // It is brought within 0 to 10 before a beard or pearls come to it.
            dueChance(check, "beard", "plain", hold, Math.min(10, held + 2));
            dueChance(check, "plain", "pearls", hold, Math.max(0, held - 2));
        }
    }

    private static void beard(Check check) {
        for (String kind : new String[] {"plain", "stoops"}) {
            dueChance(check, "beard", kind, "5", 7);
            dueChance(check, kind, "beard", "5", 7);
            dueChance(check, kind, kind, "5", 5);
        }
        dueChance(check, "beard", "beard", "5", 7);
        dueChance(check, "beard", "pearls", "5", 5);
        dueChance(check, "pearls", "beard", "5", 5);
    }

    private static void pearls(Check check) {
        dueChance(check, "pearls", "plain", "5", 3);
        dueChance(check, "plain", "pearls", "5", 3);
        dueChance(check, "pearls", "pearls", "5", 3);
    }

    private static void shy(Check check) {
        dueChance(check, "shy", "plain", "5", 4);
        dueChance(check, "plain", "shy", "5", 4);
        dueChance(check, "shy", "pearls", "5", 2);
        dueChance(check, "beard", "shy", "5", 6);
    }

    private static void cold(Check check) {
        dueChance(check, "plain", "cold", "5", 4);
        dueChance(check, "cold", "plain", "5", 5);
        dueChance(check, "cold", "cold", "5", 4);
        dueChance(check, "shy", "cold", "5", 3);
        dueChance(check, "cold", "shy", "5", 4);
        dueChance(check, "pearls", "cold", "5", 2);
    }

    private static void chanceWithin(Check check) {
        dueChance(check, "beard", "plain", "8", 10);
        dueChance(check, "beard", "plain", "9", 10);
        dueChance(check, "beard", "beard", "10", 10);
        dueChance(check, "pearls", "plain", "2", 0);
        dueChance(check, "pearls", "plain", "1", 0);
        dueChance(check, "pearls", "cold", "2", 0);
        dueChance(check, "shy", "cold", "1", 0);
        dueChance(check, "shy", "plain", "0", 0);
        // What is beyond is cut off behind all of them, not behind each.
        dueChance(check, "beard", "shy", "10", 10);
        dueChance(check, "beard", "cold", "9", 10);
        dueChance(check, "pearls", "beard", "1", 1);
        dueChance(check, "beard", "pearls", "9", 9);
        dueChance(check, "beard", "pearls", "10", 10);
    }

    private static void bothShy(Check check) {
        dueChance(check, "shy", "shy", "10", 0);
        dueChance(check, "shy", "shy", "9999", 0);
        dueChance(check, "shy", "shy", "0", 0);
        dueChance(check, "shy", "plain", "10", 9);
    }

    private static void stoops(Check check) {
        dueChance(check, "plain", "plain", "step", 6);
        dueChance(check, "stoops", "plain", "step", 0);
        dueChance(check, "plain", "stoops", "step", 0);
        dueChance(check, "stoops", "stoops", "step", 0);
        dueChance(check, "stoops", "plain", "9 - step", 9);
        dueChance(check, "stoops", "beard", "step", 2);
    }

    private static void paceAndFruit(Check check) {
        ChinRow row = check.told(THREE + "fruit p size 1 slip 2; fruit q size 3 slip 4; hold size + pace; time slip * 10 + pace;");
        row.pace(3);
        for (int pace = 0; pace < 4; pace++) {
            check.due("chance by its own pace", row.chance(0, 1, pace), 1 + pace);
            check.due("seconds by its own pace", row.seconds(0, 1, pace), 20 + pace);
        }
        row.fruit(1);
        check.due("chance with q", row.chance(0, 1, 2), 5);
        check.due("seconds with q", row.seconds(0, 1, 2), 42);
        check.due("the row's pace stays", row.count(4), 3);
    }

    private static void othersAndSame(Check check, boolean chance) {
        ChinRow row = check.told(THREE + "hold 5; time 5;");
        int[][] refused = {{0, 0, 0}, {2, 2, 3}, {-1, 0, 0}, {0, -1, 0}, {3, 0, 0}, {0, 3, 0}, {-1, -1, 0}, {0, 1, -1}, {0, 1, 4}};
        for (int[] r : refused) check.due("pass", ask(row, chance, r[0], r[1], r[2]), -1);
        for (int far : Edges.FAR) {
            check.due("from " + far, ask(row, chance, far, 0, 0), -1);
            check.due("to " + far, ask(row, chance, 0, far, 0), -1);
            check.due("pace " + far, ask(row, chance, 0, 1, far), -1);
        }
        check.due("the first to the last, pace 0", ask(row, chance, 0, 2, 0), 5);
        check.due("the last to the first, pace 3", ask(row, chance, 2, 0, 3), 5);
        row.out(1, true);
        check.due("of one who is out", ask(row, chance, 0, 1, 0), 5); // a PASS is from one of the PEOPLE, not of the ROW
        check.due("of nobody", ask(new ChinRow(), chance, 0, 1, 0), -1);
    }

    private static int ask(ChinRow row, boolean chance, int from, int to, int pace) {
        return chance ? row.chance(from, to, pace) : row.seconds(from, to, pace);
    }

    private static void timeWithin(Check check) {
        int[] values = {-9999, -1, 0, 1, 2, 98, 99, 100, 9999};
        for (int value : values) {
            ChinRow row = check.told(THREE + "time " + (value < 0 ? "0 - " + -value : "" + value) + ";");
            check.due("seconds by " + value, row.seconds(0, 1, 0), Math.max(1, Math.min(99, value)));
        }
    }

    private static void stepAsItIs(Check check) {
        ChinRow row = check.told("man a stoops tall 1 neck 1; woman b plain tall 31 neck 1; man c stoops tall 11 neck 1; time step; hold step;");
        check.due("who stoops gives", row.seconds(0, 1, 0), 30);
        check.due("who stoops takes", row.seconds(1, 0, 0), 30);
        check.due("both stoop", row.seconds(0, 2, 0), 10);
        check.due("chance, for once", row.chance(0, 1, 0), 0);
        check.due("seconds behind a chance", row.seconds(0, 1, 0), 30);
    }

    private static void twice(Check check) {
        String two = "man a beard tall 1 neck 1; woman b beard tall 1 neck 1; man c plain tall 1 neck 1; time ";
        check.due("the least", check.told(two + "0;").seconds(0, 1, 0), 2);
        check.due("the most", check.told(two + "9999;").seconds(0, 1, 0), 198);
        check.due("between", check.told(two + "60;").seconds(1, 0, 0), 120);
        check.due("one gives", check.told(two + "60;").seconds(0, 2, 0), 60);
        check.due("one takes", check.told(two + "60;").seconds(2, 0, 0), 60);
    }

    private static void withoutFruit(Check check) {
        ChinRow row = check.told(THREE + "fruit p size 9 slip 9; hold size; time slip * 5;");
        check.due("chance with one", row.chance(0, 1, 0), 9);
        check.due("seconds with one", row.seconds(0, 1, 0), 45);
        check.read(row, THREE + "hold 4 + size + slip; time 7 + size * slip + slip - size;", 0);
        check.due("chance without", row.chance(0, 1, 0), 4);
        check.due("seconds without", row.seconds(0, 1, 0), 7);
        check.due("mean without", row.mean(0), 44); // 2 * (70 + 18) / 4
    }

    private static void dueMean(Check check, String what, ChinRow row, long above, long below) {
        check.due("mean above, " + what, row.mean(0), above);
        check.due("mean below, " + what, row.mean(1), below);
    }

    private static void meanOfRow(Check check) {
        ChinRow row = check.told(THREE + "hold neck; pick 0; time 9;");
        dueMean(check, "a b c", row, 28, 1); // 90 / 9 + 90 / 5
        row.out(2, true);
        dueMean(check, "a b", row, 10, 1);
        row.out(2, false);
        row.out(1, true);
        dueMean(check, "a c", row, 18, 1);
        row.change(0, 2);
        dueMean(check, "c a", row, -1, -1);
        row.out(1, false);
        dueMean(check, "c b a", row, -1, -1);
        row.out(0, true);
        dueMean(check, "c b", row, 10, 1);
        ChinRow steps = check.told("man a plain tall 10 neck 1; man b plain tall 30 neck 2; man c plain tall 35 neck 3; hold 10; time step + neck;");
        dueMean(check, "by steps and necks", steps, 22 + 8, 1);
        steps.change(0, 2);
        dueMean(check, "the other way", steps, 7 + 21, 1);
    }

    private static void bothLaws(Check check) {
        String laws = "hold neck; time 9; pick 9; ";
        dueMean(check, "there", check.told(THREE + laws + "fall there;"), 11 + 27, 1); // 99 / 9 + 135 / 5
        dueMean(check, "front", check.told(THREE + laws + "fall front;"), 49, 1); // (110 + 135) / 5
        dueMean(check, "there without pick", check.told(THREE + "hold neck; time 9; pick 0; fall there;"), 28, 1);
        dueMean(check, "front without pick", check.told(THREE + "hold neck; time 9; pick 0; fall front;"), 38, 1); // (100 + 90) / 5
        dueMean(check, "one pass there", check.told(TWO + laws + "fall there;"), 11, 1);
        dueMean(check, "one pass front", check.told(TWO + laws + "fall front;"), 11, 1);
        for (String law : new String[] {"fall there;", "fall front;"}) dueMean(check, "for sure", check.told(THREE + "hold 10; time 9; pick 99;" + law), 18, 1);
    }

    private static void chanceNought(Check check) {
        for (String law : new String[] {"fall there; ", "fall front; "}) {
            String four = THREE + "man d plain tall 1 neck 7; " + law + "hold neck; ";
            ChinRow row = check.told(four);
            check.due("b c d hold", row.mean(0) > 0, true);
            row.change(0, 1);
            dueMean(check, "0 at the first pass", row, -1, -1);
            row.change(0, 2);
            dueMean(check, "0 at the second", row, -1, -1);
            row.change(0, 3);
            dueMean(check, "0 at the last", row, -1, -1);
            row.out(0, true);
            check.due("without a all hold", row.mean(0) > 0, true);
        }
        dueMean(check, "both are shy", check.told("man a shy tall 1 neck 1; woman b shy tall 1 neck 1; hold 10;"), -1, -1);
    }

    private static void lowestMean(Check check) {
        dueMean(check, "a whole number", check.told(THREE + "hold 10; time 9;"), 18, 1);
        dueMean(check, "by ninths and fifths", check.told(THREE + "hold neck; time 9; pick 3;"), 94, 3); // 93 / 9 + 105 / 5
        dueMean(check, "one pass", check.told("man a plain tall 1 neck 1; man b plain tall 1 neck 1; hold 8; time 1; pick 1;"), 3, 2);
        dueMean(check, "the least", check.told("man a plain tall 1 neck 1; man b plain tall 1 neck 1; hold 10; time 0;"), 1, 1);
        StringBuilder seven = new StringBuilder();
        for (char name = 'a'; name < 'h'; name++) seven.append("man ").append(name).append(" plain tall 1 neck 1; ");
        // 10 * 99 + 9 * 99 for each try of ten, six passes of one in ten.
        dueMean(check, "the longest there", check.told(seven + "hold 1; time 99; pick 99;"), 6 * 1881, 1);
        long front = 0;
        for (int i = 0; i < 6; i++) front = front * 10 + 1881;
        dueMean(check, "the longest from the front", check.told(seven + "hold 1; time 99; pick 99; fall front;"), front, 1);
        // Chances of 7: the sevenths stay below.
        long above = 0;
        long below = 1;
        for (int i = 0; i < 6; i++) {
            above = above * 10 + 100 * below; // 10 * 10 + 3 * 0
            below *= 7;
        }
        dueMean(check, "the greatest below", check.told(seven + "hold 7; time 10; pick 0; fall front;"), above, below);
    }

    private static void meanWithoutPass(Check check) {
        dueMean(check, "nobody", new ChinRow(), 0, 1);
        for (String law : new String[] {"fall there; ", "fall front; "}) {
            dueMean(check, "one", check.told("man a plain tall 1 neck 1; hold 0; " + law), 0, 1);
            ChinRow row = check.told(THREE + "hold 0; " + law);
            row.out(0, true);
            row.out(1, true);
            dueMean(check, "one in the row", row, 0, 1);
            row.out(2, true);
            dueMean(check, "none in the row", row, 0, 1);
        }
    }

    private static void otherMeans(Check check) {
        for (ChinRow row : new ChinRow[] {check.told(THREE), check.told(THREE + "hold 0;"), new ChinRow()}) {
            check.due("mean(-1)", row.mean(-1), -1);
            check.due("mean(2)", row.mean(2), -1);
            for (int far : Edges.FAR) check.due("mean(" + far + ")", row.mean(far), -1);
        }
    }

    private static void dueFalls(Check check, ChinRow row, int i, long above, long below) {
        check.due("falls(" + i + ", 0)", row.falls(i, 0), above);
        check.due("falls(" + i + ", 1)", row.falls(i, 1), below);
    }

    private static void firstFall(Check check) {
        for (String law : new String[] {"fall there; ", "fall front; "}) {
            ChinRow row = check.told(THREE + "hold neck; " + law);
            dueFalls(check, row, 0, 1, 10);
            dueFalls(check, row, 1, 9, 20);
            row.change(1, 2);
            dueFalls(check, row, 0, 1, 2);
            dueFalls(check, row, 1, 1, 20);
            row.out(2, true);
            dueFalls(check, row, 0, 1, 10);
            dueFalls(check, row, 1, -1, -1);
        }
        ChinRow stopped = check.told(THREE + "hold neck - 9;");
        dueFalls(check, stopped, 0, 1, 1); // it falls for sure at the first, so never for the first time behind it
        dueFalls(check, stopped, 1, 0, 1);
        dueFalls(check, stopped, -1, 0, 1);
        ChinRow sure = check.told(THREE + "hold 10;");
        dueFalls(check, sure, 0, 0, 1);
        dueFalls(check, sure, 1, 0, 1);
        dueFalls(check, sure, -1, 1, 1);
    }

    private static void neverFalls(Check check) {
        dueFalls(check, new ChinRow(), -1, 1, 1);
        dueFalls(check, check.told("man a plain tall 1 neck 1; hold 0;"), -1, 1, 1);
        ChinRow row = check.told(THREE + "hold neck;");
        dueFalls(check, row, -1, 9, 20);
        row.out(0, true);
        dueFalls(check, row, -1, 1, 2);
        row.out(1, true);
        dueFalls(check, row, -1, 1, 1);
        row.out(2, true);
        dueFalls(check, row, -1, 1, 1);
    }

    private static void whichPass(Check check) {
        StringBuilder seven = new StringBuilder();
        for (char name = 'a'; name < 'h'; name++) seven.append("man ").append(name).append(" plain tall 1 neck 1; ");
        ChinRow row = check.told(seven + "hold 5;");
        for (int i = 0; i < 6; i++) dueFalls(check, row, i, 1, 2L << i);
        dueFalls(check, row, -1, 1, 64);
        dueFalls(check, row, 6, -1, -1);
        dueFalls(check, row, -2, -1, -1);
    }

    private static void lowestFalls(Check check) {
        StringBuilder seven = new StringBuilder();
        for (char name = 'a'; name < 'h'; name++) seven.append("man ").append(name).append(" plain tall 1 neck 1; ");
        ChinRow row = check.told(seven + "hold 9;");
        dueFalls(check, row, -1, 531441, 1000000);
        dueFalls(check, row, 5, 59049, 1000000);
        row = check.told(seven + "hold 8;");
        dueFalls(check, row, -1, 4096, 15625);
        dueFalls(check, row, 0, 1, 5);
        dueFalls(check, row, 5, 1024, 15625);
    }

    private static void otherFalls(Check check) {
        ChinRow row = check.told(THREE);
        dueFalls(check, row, 2, -1, -1);
        dueFalls(check, row, -2, -1, -1);
        for (int far : Edges.FAR) dueFalls(check, row, far, -1, -1);
        for (int i = -1; i < 2; i++) {
            check.due("what -1", row.falls(i, -1), -1);
            check.due("what 2", row.falls(i, 2), -1);
            for (int far : Edges.FAR) check.due("what " + far, row.falls(i, far), -1);
        }
        dueFalls(check, new ChinRow(), 0, -1, -1);
        row.out(0, true);
        row.out(1, true);
        dueFalls(check, row, 0, -1, -1);
    }
}
