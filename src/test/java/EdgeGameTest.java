import java.io.IOException;

/** Edges of BOUGHT, HURRY, LAUGHS, OUTER, EVEN, LET and EVENING: promises 18 to 24. */
public final class EdgeGameTest {
    private static final String TWO = "man a plain tall 1 neck 0; woman b plain tall 1 neck 9; ";
    private static final String THREE = TWO + "man c plain tall 1 neck 6; ";
    private static final String[] BOTH_LAWS = {"fall there; ", "fall front; "};

    public static void main(String[] args) throws IOException {
        Edges edges = new Edges("EdgeGameTest");
        bought(edges);
        hurry(edges);
        laughs(edges);
        even(edges);
        let(edges);
        evening(edges);
        edges.end();
    }

    private static String seven() {
        StringBuilder text = new StringBuilder();
        for (char name = 'a'; name < 'h'; name++) text.append("man ").append(name).append(" plain tall 1 neck ").append(name == 'b' ? 1 : 0).append(";");
        return text.toString();
    }

    // ---- BOUGHT

    private static void bought(Edges edges) {
        edges.edge("==== 3.", "BOUGHT: a million ROWS as it stands", EdgeGameTest::asItStands);
        edges.edge("==== 3.", "those ROWS that are at one PASS and have spoilt as many try it at once", EdgeGameTest::atOnce);
        edges.edge("==== 3.", "their number times its CHANCE by ten, cut, pass, all others spoil one more", EdgeGameTest::cut);
        edges.edge("==== 3.", "(and are there, or at the front, by the law)", EdgeGameTest::boughtByLaw);
        edges.edge("==== 3.", "are through having spoilt fewer than so many FRUITS (1 to 20)", EdgeGameTest::fewer);
        edges.edge("Promise 18", "BOUGHT; NONE: others.", EdgeGameTest::boughtOthers);
    }

    private static void dueBought(Check check, ChinRow row, int fruits, int due) {
        check.due("bought(" + fruits + ")", row.bought(fruits), due);
    }

    private static void asItStands(Check check) {
        for (String law : BOTH_LAWS) {
            ChinRow row = check.told(THREE + law + "fruit p size 0 slip 0; fruit q size 1 slip 1; hold neck - pace - size;");
            dueBought(check, row, 1, 540000);
            row.pace(1);
            dueBought(check, row, 1, 400000);
            row.fruit(1);
            dueBought(check, row, 1, 280000);
            row.out(2, true);
            dueBought(check, row, 1, 700000);
            row.change(0, 1);
            dueBought(check, row, 20, 0);
            row.out(0, true);
            dueBought(check, row, 1, 1000000);
            row.out(1, true);
            dueBought(check, row, 1, 1000000);
        }
        dueBought(check, new ChinRow(), 1, 1000000);
        dueBought(check, new ChinRow(), 20, 1000000);
    }

    private static void atOnce(Check check) {
        int[] due = {90000, 216000, 348300, 471780, 579825, 670582, 744700, 803995, 850690, 887008, 914973, 936328, 952522,
            964730, 973886, 980722, 985807, 989575, 992360, 994412}; // were they to try it apart, the 8th would be 803994
        ChinRow row = check.told(THREE + "hold 3;");
        for (int i = 0; i < 20; i++) dueBought(check, row, i + 1, due[i]);
    }

    private static void cut(Check check) {
        ChinRow nine = check.told(TWO + "hold 9;");
        int[] due = {900000, 990000, 999000, 999900, 999990, 999999, 999999};
        for (int i = 0; i < due.length; i++) dueBought(check, nine, i + 1, due[i]);
        dueBought(check, nine, 20, 999999); // of the last one nine tenths, cut, are none
        ChinRow one = check.told(seven() + "hold 1; fall front;");
        dueBought(check, one, 1, 1);
        dueBought(check, one, 2, 1); // of 999,999 come 99,999, 9,999, 999, 99, 9 and none
        dueBought(check, one, 20, 1);
        ChinRow sure = check.told(THREE + "hold 10;");
        dueBought(check, sure, 1, 1000000);
        dueBought(check, sure, 20, 1000000);
        ChinRow never = check.told(THREE + "hold 0;");
        dueBought(check, never, 1, 0);
        dueBought(check, never, 20, 0);
    }

    private static void boughtByLaw(Check check) {
        int[] there = {250000, 500000, 687500};
        int[] front = {250000, 437500, 578125};
        for (int i = 0; i < 3; i++) {
            dueBought(check, check.told(THREE + "hold 5; fall there;"), i + 1, there[i]);
            dueBought(check, check.told(THREE + "hold 5; fall front;"), i + 1, front[i]);
            dueBought(check, check.told(THREE + "hold 5;"), i + 1, there[i]);
        }
        dueBought(check, check.told(THREE + "hold 3; fall front;"), 20, 848349);
        dueBought(check, check.told(seven() + "hold 1; fall there;"), 20, 33392);
    }

    private static void fewer(Check check) {
        ChinRow row = check.told(TWO + "hold 5;");
        dueBought(check, row, 1, 500000); // none spoilt
        dueBought(check, row, 2, 750000); // one at most
        int left = 1000000;
        for (int fruits = 1; fruits <= 20; fruits++) {
            left -= left * 5 / 10;
            dueBought(check, row, fruits, 1000000 - left);
        }
        dueBought(check, row, 0, -1);
        dueBought(check, row, 21, -1);
    }

    private static void boughtOthers(Check check) {
        for (ChinRow row : new ChinRow[] {check.told(THREE), new ChinRow(), check.told(TWO + "hold 0;")}) {
            dueBought(check, row, 0, -1);
            dueBought(check, row, -1, -1);
            dueBought(check, row, 21, -1);
            for (int far : Edges.FAR) dueBought(check, row, far, -1);
        }
    }

    // ---- HURRY

    private static void hurry(Edges edges) {
        edges.edge("==== 3.", "each of which holds with a told chance (1 to 10 of ten)", EdgeGameTest::theirChance);
        edges.edge("==== 3.", "each beat both try one PASS (there, whatever the law)", EdgeGameTest::whateverTheLaw);
        edges.edge("==== 3.", "ours with that pace (0 to 3) by which the chance to be through first is greatest", EdgeGameTest::greatest);
        edges.edge("==== 3.", "by millionths, cut at each state", EdgeGameTest::cutAtEach);
        edges.edge("==== 3.", "of those beats in which either holds, by how it goes", EdgeGameTest::eitherHolds);
        edges.edge("==== 3.", "through at once is 500,000", EdgeGameTest::throughAtOnce);
        edges.edge("==== 3.", "WIN: that from some PASSES left of ours (the ROW's last ones) on", EdgeGameTest::lastOnes);
        edges.edge("==== 3.", "PACE: the least such pace.", EdgeGameTest::leastPace);
        edges.edge("Promise 19", "from so many PASSES left of ours (1 to all)", EdgeGameTest::oursToAll);
        edges.edge("Promise 19", "so many of theirs (1 to 9)", EdgeGameTest::theirsToNine);
        edges.edge("Promise 19", "with that chance of theirs; NONE: others.", EdgeGameTest::hurryOthers);
    }

    private static void dueHurry(Check check, ChinRow row, int ours, int theirs, int chance, int win, int pace) {
        String args = ours + ", " + theirs + ", " + chance;
        check.due("hurry(" + args + ", false)", row.hurry(ours, theirs, chance, false), win);
        check.due("hurry(" + args + ", true)", row.hurry(ours, theirs, chance, true), pace);
    }

    private static void theirChance(Check check) {
        ChinRow row = check.told(TWO + "hold 5;");
        dueHurry(check, row, 1, 1, 0, -1, -1);
        dueHurry(check, row, 1, 1, 1, (5 * 500000 + 45 * 1000000) / 55, 0);
        dueHurry(check, row, 1, 1, 5, 500000, 0);
        dueHurry(check, row, 1, 1, 10, 250000, 0); // they are through at the first beat
        dueHurry(check, row, 1, 1, 11, -1, -1);
    }

    private static void whateverTheLaw(Check check) {
        for (String law : BOTH_LAWS) {
            ChinRow row = check.told(THREE + "hold 5; " + law);
            dueHurry(check, row, 1, 2, 5, 833333, 0);
            dueHurry(check, row, 1, 3, 5, 944444, 0);
            dueHurry(check, row, 2, 1, 5, 166666, 0);
            dueHurry(check, row, 2, 3, 5, 759258, 0);
        }
    }

    private static void greatest(Check check) {
        for (int best = 0; best < 4; best++) {
            ChinRow row = check.told(TWO + "hold 1 + (pace = " + best + ") * 5;");
            dueHurry(check, row, 1, 1, 5, 562500, best); // 6 of ten: (30 * 500000 + 30 * 1000000) / 80
            row.pace((best + 1) % 4);
            dueHurry(check, row, 1, 1, 5, 562500, best); // whatever the row's own pace is
        }
        ChinRow row = check.told(THREE + "hold (neck = 9) * (1 + (pace = 1) * 4) + (neck = 6) * (1 + (pace = 3) * 4);");
        dueHurry(check, row, 1, 1, 5, 500000, 3);
        dueHurry(check, row, 2, 1, 5, 166666, 1);
        dueHurry(check, row, 2, 2, 5, 499999, 1);
        ChinRow faster = check.told(TWO + "hold 1 + (3 < pace) * 9;"); // no pace is above 3
        dueHurry(check, faster, 1, 1, 1, 500000, 0);
        ChinRow fifth = check.told(seven() + "hold 5 + (neck = 1) * 5;");
        fifth.change(1, 5); // who takes the fifth PASS holds it for sure
        fifth.bought(20);
        fifth.evening(1, 0);
        dueHurry(check, fifth, 1, 1, 5, 500000, 0);
    }

    private static void cutAtEach(Check check) {
        ChinRow row = check.told(THREE + "hold 5;");
        dueHurry(check, row, 2, 2, 5, 499999, 0); // were it cut at last alone: 500,000
        dueHurry(check, check.told(seven() + "hold 1;"), 6, 6, 1, 499996, 0);
        dueHurry(check, check.told(seven() + "hold 1;"), 6, 9, 1, 800527, 0);
        dueHurry(check, check.told(seven() + "hold 1;"), 6, 9, 10, 42, 0);
        // From the second PASS on 5 millionths: with 1, 2 and 3 of ten 0, 1 and 1, cut.
        ChinRow small = check.told(seven() + "hold (neck = 1) * pace + (neck = 0);");
        dueHurry(check, small, 5, 5, 10, 5, 0);
        dueHurry(check, small, 6, 6, 10, 1, 2);
    }

    private static void eitherHolds(Check check) {
        ChinRow never = check.told(THREE + "hold 0;");
        dueHurry(check, never, 1, 1, 1, 0, 0);
        dueHurry(check, never, 2, 9, 10, 0, 0);
        ChinRow sure = check.told(THREE + "hold 10;");
        dueHurry(check, sure, 1, 1, 1, 950000, 0);
        dueHurry(check, sure, 1, 2, 1, 1000000, 0);
        ChinRow seldom = check.told(TWO + "hold 1;");
        dueHurry(check, seldom, 1, 1, 1, 500000, 0); // (1 * 500000 + 9 * 1000000) / 19
        dueHurry(check, seldom, 1, 9, 1, 998732, 0);
    }

    private static void throughAtOnce(Check check) {
        ChinRow sure = check.told(seven() + "hold 10 - pace;");
        for (int ours = 1; ours <= 6; ours++) {
            for (int theirs = 1; theirs <= 9; theirs++) {
                dueHurry(check, sure, ours, theirs, 10, ours < theirs ? 1000000 : ours == theirs ? 500000 : 0, 0);
            }
        }
    }

    private static void lastOnes(Check check) {
        ChinRow row = check.told(THREE + "hold neck;"); // the last PASS holds with 6, the one before with 9
        dueHurry(check, row, 1, 1, 5, 562500, 0);
        row.change(1, 2);
        dueHurry(check, row, 1, 1, 5, 67500000 / 95, 0);
        row.out(1, true);
        dueHurry(check, row, 1, 1, 5, 562500, 0);
        dueHurry(check, row, 2, 1, 5, -1, -1);
    }

    private static void leastPace(Check check) {
        dueHurry(check, check.told(TWO + "hold 5;"), 1, 1, 5, 500000, 0);
        dueHurry(check, check.told(TWO + "hold (0 < pace) * 5;"), 1, 1, 5, 500000, 1);
        dueHurry(check, check.told(TWO + "hold (1 < pace) * 5;"), 1, 1, 5, 500000, 2);
        dueHurry(check, check.told(TWO + "hold 10 + pace;"), 1, 1, 10, 500000, 0); // all are 10
        dueHurry(check, check.told(THREE + "hold 1 + pace;"), 2, 1, 10, 0, 0); // nothing helps
        dueHurry(check, check.told(THREE + "hold 1 + pace;"), 1, 1, 10, 200000, 3);
    }

    private static void oursToAll(Check check) {
        ChinRow row = check.told(seven() + "hold 10;");
        dueHurry(check, row, 0, 9, 10, -1, -1);
        dueHurry(check, row, 1, 9, 10, 1000000, 0);
        dueHurry(check, row, 6, 9, 10, 1000000, 0);
        dueHurry(check, row, 7, 9, 10, -1, -1);
        row.out(3, true);
        dueHurry(check, row, 5, 9, 10, 1000000, 0);
        dueHurry(check, row, 6, 9, 10, -1, -1);
        for (int i = 0; i < 6; i++) row.out(i, true);
        dueHurry(check, row, 1, 9, 10, -1, -1); // one alone has no PASS
        dueHurry(check, row, 0, 9, 10, -1, -1);
        row.out(6, true);
        dueHurry(check, row, 1, 9, 10, -1, -1);
    }

    private static void theirsToNine(Check check) {
        ChinRow row = check.told(TWO + "hold 10;");
        dueHurry(check, row, 1, 0, 10, -1, -1);
        dueHurry(check, row, 1, 1, 10, 500000, 0);
        dueHurry(check, row, 1, 9, 10, 1000000, 0);
        dueHurry(check, row, 1, 10, 10, -1, -1);
    }

    private static void hurryOthers(Check check) {
        ChinRow row = check.told(THREE);
        for (int far : Edges.FAR) {
            dueHurry(check, row, far, 1, 5, -1, -1);
            dueHurry(check, row, 1, far, 5, -1, -1);
            dueHurry(check, row, 1, 1, far, -1, -1);
        }
        dueHurry(check, row, -1, 1, 5, -1, -1);
        dueHurry(check, row, 1, -1, 5, -1, -1);
        dueHurry(check, row, 1, 1, -1, -1, -1);
        dueHurry(check, new ChinRow(), 1, 1, 5, -1, -1);
    }

    // ---- LAUGHS, OUTER

    private static void laughs(Edges edges) {
        edges.edge("==== 3.", "who is next to one that laughs (in the ROW) laughs too if the E of laugh is not 0", EdgeGameTest::nextTo);
        edges.edge("==== 3.", "a shy one never laughs (but if it begins)", EdgeGameTest::shyLaughs);
        edges.edge("Promise 20", "who laughs, as bits; NONE: others, OUT.", EdgeGameTest::laughsOthers);
        edges.edge("==== 3.", "OUTER: the one of the ROW, not who begins", EdgeGameTest::notWhoBegins);
        edges.edge("==== 3.", "without whom (the others closing up) the fewest laugh", EdgeGameTest::closingUp);
        edges.edge("==== 3.", "of equal ones the first of the ROW", EdgeGameTest::firstOfRow);
        edges.edge("Promise 21", "OUTER; NONE: others, nobody else is in the ROW.", EdgeGameTest::outerOthers);
    }

    private static void nextTo(Check check) {
        ChinRow row = check.told("man a plain tall 0 neck 1; man b plain tall 10 neck 1; man c plain tall 30 neck 1; man d plain tall 31 neck 1; laugh step < 20;");
        int[] due = {3, 3, 12, 12};
        for (int i = 0; i < 4; i++) check.due("laughs(" + i + ")", row.laughs(i), due[i]);
        row.change(1, 2);
        check.dueRow("change", row, "0213");
        check.due("a alone", row.laughs(0), 1);
        row.change(1, 2);
        row.out(1, true);
        check.due("a with b out", row.laughs(0), 1);
        ChinRow all = check.told(seven());
        for (int i = 0; i < 7; i++) check.due("all laugh with " + i, all.laughs(i), 127);
        ChinRow none = check.told(seven() + "laugh 0;");
        for (int i = 0; i < 7; i++) check.due("none laughs with " + i, none.laughs(i), 1 << i);
        check.due("less than 0 is not 0", check.told(seven() + "laugh 0 - 1;").laughs(3), 127);
        ChinRow one = check.told("man a plain tall 1 neck 1;");
        check.due("one alone", one.laughs(0), 1);
    }

    private static void shyLaughs(Check check) {
        ChinRow row = check.told("man a plain tall 1 neck 1; man b shy tall 1 neck 1; man c plain tall 1 neck 1; man d shy tall 1 neck 1; man e shy tall 1 neck 1;");
        int[] due = {1, 7, 4, 12, 16};
        for (int i = 0; i < 5; i++) check.due("laughs(" + i + ")", row.laughs(i), due[i]);
        row.out(1, true);
        check.due("laughs(0) without b", row.laughs(0), 5);
    }

    private static void laughsOthers(Check check) {
        ChinRow row = check.told(THREE);
        check.due("laughs(-1)", row.laughs(-1), -1);
        check.due("laughs(3)", row.laughs(3), -1);
        for (int far : Edges.FAR) check.due("laughs(" + far + ")", row.laughs(far), -1);
        row.out(0, true);
        row.out(2, true);
        check.due("laughs(0) out", row.laughs(0), -1);
        check.due("laughs(2) out", row.laughs(2), -1);
        check.due("laughs(1)", row.laughs(1), 2);
        check.due("laughs of nobody", new ChinRow().laughs(0), -1);
    }

    private static void notWhoBegins(Check check) {
        ChinRow two = check.told(TWO);
        check.due("outer(0) of two", two.outer(0), 1);
        check.due("outer(1) of two", two.outer(1), 0);
        ChinRow none = check.told(THREE + "laugh 0;"); // each laughs alone, so the first other one goes
        check.due("outer(0)", none.outer(0), 1);
        check.due("outer(1)", none.outer(1), 0);
        check.due("outer(2)", none.outer(2), 0);
    }

    private static void closingUp(Check check) {
        ChinRow row = check.told("man a plain tall 1 neck 1; man b shy tall 1 neck 1; man c plain tall 1 neck 1;");
        check.due("without b c would laugh too", row.outer(0), 2);
        check.due("b begins: without a or c two laugh", row.outer(1), 0);
        ChinRow steps = check.told("man a plain tall 0 neck 1; man b plain tall 10 neck 1; man c plain tall 20 neck 1; man d plain tall 30 neck 1; laugh step < 11;");
        check.due("without b nobody laughs with a", steps.outer(0), 1);
        check.due("without c d laughs no more with b, nor c", steps.outer(1), 2);
        check.due("without b a laughs no more with c, nor b", steps.outer(2), 1);
        check.due("without c nobody laughs with d", steps.outer(3), 2);
    }

    private static void firstOfRow(Check check) {
        ChinRow row = check.told(seven());
        for (int i = 0; i < 7; i++) check.due("outer(" + i + ")", row.outer(i), i == 0 ? 1 : 0);
        row.change(0, 6);
        check.due("6 stands first", row.outer(3), 6);
        check.due("6 begins", row.outer(6), 1);
        row.out(6, true);
        check.due("1 stands first", row.outer(3), 1);
    }

    private static void outerOthers(Check check) {
        ChinRow row = check.told(THREE);
        check.due("outer(-1)", row.outer(-1), -1);
        check.due("outer(3)", row.outer(3), -1);
        for (int far : Edges.FAR) check.due("outer(" + far + ")", row.outer(far), -1);
        row.out(1, true);
        check.due("outer(1) out", row.outer(1), -1);
        check.due("outer(0) of two", row.outer(0), 2);
        row.out(2, true);
        check.due("outer(0), nobody else is in the row", row.outer(0), -1);
        row.out(0, true);
        check.due("outer(0) out", row.outer(0), -1);
        check.due("outer of one", check.told("man a plain tall 1 neck 1;").outer(0), -1);
        check.due("outer of nobody", new ChinRow().outer(0), -1);
    }

    // ---- EVEN

    private static void even(Edges edges) {
        edges.edge("==== 3.", "EVEN: all PEOPLE in two teams", EdgeGameTest::allPeople);
        edges.edge("==== 3.", "PAIRS in one, who quarrel not in one", EdgeGameTest::teams);
        edges.edge("==== 3.", "the least difference of their talls together", EdgeGameTest::difference);
        edges.edge("==== 3.", "of equal ones the least set (bits) with PERSON 0 in it", EdgeGameTest::leastSet);
        edges.edge("Promise 22", "EVEN, what 0: the difference, 1: the set; NONE: others", EdgeGameTest::evenOthers);
        edges.edge("Promise 22", "NONE: others, it can't be, nobody.", EdgeGameTest::cantBe);
    }

    private static String talls(int... talls) {
        StringBuilder text = new StringBuilder();
        for (int i = 0; i < talls.length; i++) text.append("man ").append((char) ('a' + i)).append(" plain tall ").append(talls[i]).append(" neck 1;");
        return text.toString();
    }

    private static void dueEven(Check check, String text, int difference, int set) {
        ChinRow row = check.told(text);
        check.due("even(0) of '" + text + "'", row.even(0), difference);
        check.due("even(1) of '" + text + "'", row.even(1), set);
    }

    private static void allPeople(Check check) {
        dueEven(check, talls(7), 7, 1); // one team is empty then
        dueEven(check, talls(0), 0, 1);
        ChinRow row = check.told(talls(10, 20, 30));
        for (int i = 0; i < 3; i++) {
            row.out(i, true);
            check.due("the difference with " + (i + 1) + " out", row.even(0), 0);
            check.due("the set with " + (i + 1) + " out", row.even(1), 3);
        }
        row = check.told(talls(10, 20, 30) + "quarrel a b;");
        row.out(0, true);
        check.due("who is out quarrels still", row.even(1), 5);
    }

    private static void teams(Check check) {
        dueEven(check, talls(10, 20, 30) + "pair a c;", 20, 5);
        dueEven(check, talls(10, 20, 30) + "pair b c;", 40, 1);
        dueEven(check, talls(10, 20, 30) + "pair a b; pair b c;", 60, 7);
        dueEven(check, talls(10, 20, 30) + "quarrel a b;", 20, 5);
        dueEven(check, talls(10, 20, 30) + "quarrel b c;", 0, 3);
        dueEven(check, talls(10, 20, 30) + "quarrel b a; quarrel c a;", 40, 1);
        dueEven(check, talls(10, 20, 30, 40) + "quarrel b c; quarrel c d;", 20, 5);
        dueEven(check, talls(1, 2, 3, 4, 5, 6, 7) + "pair a g; quarrel g f; pair f e; quarrel e d; pair d c; quarrel c b;", 2, 1 + 64 + 8 + 4);
    }

    private static void difference(Check check) {
        dueEven(check, talls(7, 7), 0, 1);
        dueEven(check, talls(7, 9), 2, 1);
        dueEven(check, talls(99, 0), 99, 1);
        dueEven(check, talls(0, 99), 99, 1);
        dueEven(check, talls(64, 32, 16, 8, 4, 2, 1), 1, 1);
        dueEven(check, talls(1, 2, 4, 8, 16, 32, 64), 1, 63);
        dueEven(check, talls(99, 99, 99, 99, 99, 99, 99), 99, 7);
        dueEven(check, talls(99, 99, 99, 99, 99, 99, 99) + "pair a b;pair b c;pair c d;pair d e;pair e f;pair f g;", 693, 127);
    }

    private static void leastSet(Check check) {
        dueEven(check, talls(5, 5, 5, 5), 0, 3); // 3, 5 and 9
        dueEven(check, talls(5, 5, 0), 0, 1); // 1 and 5
        dueEven(check, talls(0, 5, 5), 0, 3); // 3 and 5
        dueEven(check, talls(0, 0, 0, 0, 0, 0, 0), 0, 1);
        dueEven(check, talls(5, 5, 5, 5) + "quarrel a b;", 0, 5);
        dueEven(check, talls(5, 5, 5, 5) + "quarrel a b; quarrel a c;", 0, 9);
        dueEven(check, talls(9, 5), 4, 1); // the set with 0 in it, were it the taller one or not
        dueEven(check, talls(5, 9), 4, 1);
    }

    private static void evenOthers(Check check) {
        for (ChinRow row : new ChinRow[] {check.told(THREE), check.told(THREE + "quarrel a b; quarrel b c; quarrel c a;"), new ChinRow()}) {
            check.due("even(-1)", row.even(-1), -1);
            check.due("even(2)", row.even(2), -1);
            for (int far : Edges.FAR) check.due("even(" + far + ")", row.even(far), -1);
        }
    }

    private static void cantBe(Check check) {
        dueEven(check, "", -1, -1);
        check.due("even(0) of a new object", new ChinRow().even(0), -1);
        check.due("even(1) of a new object", new ChinRow().even(1), -1);
        dueEven(check, "fruit p size 1 slip 1;", -1, -1);
        dueEven(check, talls(1, 2, 3) + "quarrel a b; quarrel b c; quarrel c a;", -1, -1);
        dueEven(check, talls(1, 2, 3) + "pair a b; pair b c; quarrel c a;", -1, -1);
        dueEven(check, talls(1, 2, 3, 4, 5, 6, 7) + "quarrel a b;quarrel b c;quarrel c d;quarrel d e;quarrel e f;quarrel f g;quarrel g a;", -1, -1);
        dueEven(check, talls(1, 2, 3, 4, 5, 6, 7) + "quarrel e f;quarrel f g;quarrel g e;", -1, -1);
        ChinRow row = check.told(talls(1, 2, 3) + "quarrel a b; quarrel b c; quarrel c a;");
        row.out(0, true);
        check.due("even with one of them out", row.even(0), -1); // all PEOPLE, not the ROW
    }

    // ---- LET

    private static void let(Edges edges) {
        edges.edge("==== 3.", "either each holds with one chance (1 to 9 of ten) or, if he lets it, with another one", EdgeGameTest::chances);
        edges.edge("==== 3.", "the chance that he lets it, both being as likely ahead", EdgeGameTest::likely);
        edges.edge("Promise 23", "passes that held, that fell (8 together at most, 0 each at least)", EdgeGameTest::heldAndFell);
        edges.edge("Promise 23", "the one chance, the other one (1 to 9)", EdgeGameTest::oneAndOther);
        edges.edge("Promise 23", "what 0: above, 1: below, in lowest terms; NONE: others.", EdgeGameTest::letTerms);
    }

    private static void dueLet(Check check, int held, int fell, int one, int other, long above, long below) {
        ChinRow row = new ChinRow();
        String args = held + ", " + fell + ", " + one + ", " + other;
        check.due("let(" + args + ", 0)", row.let(held, fell, one, other, 0), above);
        check.due("let(" + args + ", 1)", row.let(held, fell, one, other, 1), below);
    }

    private static void chances(Check check) {
        dueLet(check, 1, 0, 9, 1, 1, 10);
        dueLet(check, 1, 0, 1, 9, 9, 10);
        dueLet(check, 0, 1, 9, 1, 9, 10);
        dueLet(check, 0, 1, 1, 9, 1, 10);
        dueLet(check, 2, 1, 8, 3, 63, 191); // 3 * 3 * 7 against 8 * 8 * 2
    }

    private static void likely(Check check) {
        dueLet(check, 0, 0, 9, 1, 1, 2);
        for (int chance = 1; chance <= 9; chance++) dueLet(check, 4, 4, chance, chance, 1, 2);
        dueLet(check, 4, 4, 3, 7, 1, 2);
    }

    private static void heldAndFell(Check check) {
        dueLet(check, 0, 0, 8, 3, 1, 2);
        dueLet(check, 8, 0, 8, 4, 1, 257);
        dueLet(check, 0, 8, 6, 2, 256, 257);
        for (int held = 0; held <= 9; held++) {
            boolean fine = held <= 8;
            check.due("let(" + held + ", " + (8 - held) + ")", new ChinRow().let(held, 8 - held, 5, 5, 1), fine ? 2 : -1);
            check.due("let(" + held + ", " + (9 - held) + ")", new ChinRow().let(held, 9 - held, 5, 5, 1), -1);
        }
        dueLet(check, -1, 0, 5, 5, -1, -1);
        dueLet(check, 0, -1, 5, 5, -1, -1);
        dueLet(check, -1, 9, 5, 5, -1, -1);
        dueLet(check, 9, -1, 5, 5, -1, -1);
        for (int far : Edges.FAR) {
            dueLet(check, far, 0, 5, 5, -1, -1);
            dueLet(check, 0, far, 5, 5, -1, -1);
            dueLet(check, far, far, 5, 5, -1, -1); // together they may wrap to 0
            dueLet(check, far, -far, 5, 5, -1, -1);
        }
    }

    private static void oneAndOther(Check check) {
        dueLet(check, 1, 1, 1, 9, 1, 2);
        dueLet(check, 1, 1, 9, 1, 1, 2);
        for (int wrong : new int[] {0, 10, -1, 11}) {
            dueLet(check, 1, 1, wrong, 5, -1, -1);
            dueLet(check, 1, 1, 5, wrong, -1, -1);
        }
        for (int far : Edges.FAR) {
            dueLet(check, 1, 1, far, 5, -1, -1);
            dueLet(check, 1, 1, 5, far, -1, -1);
        }
    }

    private static void letTerms(Check check) {
        dueLet(check, 8, 0, 9, 1, 1, 43046722);
        dueLet(check, 8, 0, 1, 9, 43046721, 43046722);
        dueLet(check, 2, 0, 6, 2, 1, 10); // 4 / 40
        dueLet(check, 1, 1, 2, 6, 3, 5); // 24 / 40
        ChinRow row = check.told(THREE);
        check.due("what -1", row.let(1, 1, 5, 5, -1), -1);
        check.due("what 2", row.let(1, 1, 5, 5, 2), -1);
        for (int far : Edges.FAR) check.due("what " + far, row.let(1, 1, 5, 5, far), -1);
        check.due("whatever the party is", row.let(1, 0, 9, 1, 1), 10);
    }

    // ---- EVENING

    private static void evening(Edges edges) {
        edges.edge("==== 3.", "g becomes (g * 1103515245 + 12345) modulo 2147483648 (g is the SEED at first)", EdgeGameTest::draws);
        edges.edge("==== 3.", "it holds if that is below its CHANCE", EdgeGameTest::belowItsChance);
        edges.edge("==== 3.", "it ends behind 200 tries", EdgeGameTest::twoHundred);
        edges.edge("==== 3.", "SECONDS in all (with picks), tries, falls, where it is at last", EdgeGameTest::withPicks);
        edges.edge("Promise 24", "EVENING by a SEED (0 to 9999)", EdgeGameTest::seeds);
        edges.edge("Promise 24", "3: whose neck it is at last at; NONE: others", EdgeGameTest::eveningOthers);
        edges.edge("Promise 24", "NONE: others, nobody is in the ROW.", EdgeGameTest::nobodyInRow);
    }

    private static void dueEvening(Check check, ChinRow row, int seed, int... due) {
        for (int i = 0; i < 4; i++) check.due("evening(" + seed + ", " + i + ")", row.evening(seed, i), due[i]);
    }

    // The first draws below 10, worked out apart from the class.
    private static final int[][] DRAWS = {{0, 0, 8, 8, 7, 8, 7, 5, 1, 2, 0, 1, 2}, {1, 8, 8, 3, 5, 1, 7, 0, 9, 2, 6, 9, 7},
        {9998, 1, 2, 4, 5, 7, 6, 7, 2, 6, 2, 6, 8}, {9999, 1, 3, 9, 4, 1, 7, 3, 9, 6, 6, 2, 2}};

    private static void draws(Check check) {
        for (int[] drawn : DRAWS) {
            for (int chance = 1; chance <= 10; chance++) {
                ChinRow row = check.told(TWO + "hold " + chance + "; time 1; pick 0;");
                int tries = 1;
                while (tries < 12 && drawn[tries] >= chance) tries++;
                if (drawn[tries] < chance) dueEvening(check, row, drawn[0], tries, tries, tries - 1, 1);
            }
        }
        // By seed 0 these are 0 8 8 7 8 7 5 1 2 0: each PASS goes on with the same draws.
        dueEvening(check, check.told(THREE + "hold 8; time 1; pick 0;"), 0, 4, 4, 2, 2);
        dueEvening(check, check.told(THREE + "hold 8; time 1; pick 0; fall front;"), 0, 7, 7, 3, 2);
    }

    private static void belowItsChance(Check check) {
        dueEvening(check, check.told(TWO + "hold 8; time 1; pick 0;"), 1, 3, 3, 2, 1); // 8 is not below 8
        dueEvening(check, check.told(TWO + "hold 9; time 1; pick 0;"), 1, 1, 1, 0, 1);
        dueEvening(check, check.told(TWO + "hold 10; time 1; pick 0;"), 7777, 1, 1, 0, 1);
        dueEvening(check, check.told(TWO + "hold 1; time 1; pick 0;"), 0, 1, 1, 0, 1); // 0 is below 1
        dueEvening(check, check.told(TWO + "hold 0; time 1; pick 0;"), 0, 200, 200, 200, 0); // but not below 0
    }

    private static void twoHundred(Check check) {
        ChinRow never = check.told(THREE + "hold 0; time 2; pick 5;");
        dueEvening(check, never, 3, 200 * 7, 200, 200, 0);
        // Four people, 2 of ten, from the front: seeds found and worked out apart from the class.
        ChinRow front = check.told(THREE + "man d plain tall 1 neck 1; hold 2; fall front;");
        dueEvening(check, front, 165, 2295, 199, 168, 3);
        dueEvening(check, front, 72, 2292, 200, 164, 3); // through with the very last try
        dueEvening(check, front, 132, 2247, 200, 149, 2);
        dueEvening(check, front, 6, 2286, 200, 162, 1);
        dueEvening(check, front, 0, 2277, 200, 159, 0);
        // There it stays at the neck of who gives it, when the last try falls too.
        ChinRow there = check.told(THREE + "hold neck - 6; time 2; pick 5;");
        dueEvening(check, there, 0, 2 * 200 + 5 * 199, 200, 199, 1);
    }

    private static void withPicks(Check check) {
        // By seed 1 the draws are 8 8 3 5 1: falls, falls, holds, falls, holds.
        for (int pick : new int[] {0, 3, 99}) {
            ChinRow row = check.told(THREE + "hold 5; time neck; pick " + pick + ";");
            dueEvening(check, row, 1, 3 * 9 + 2 * 6 + 3 * pick, 5, 3, 2);
        }
        // From the front 7 0 9 2 6 9 7 and two that hold come next.
        dueEvening(check, check.told(THREE + "hold 5; time neck; pick 4; fall front;"), 1, 143, 14, 8, 2);
        ChinRow sure = check.told(seven() + "hold 10; time 99; pick 99;");
        dueEvening(check, sure, 1, 6 * 99, 6, 0, 6);
        sure.change(0, 6);
        dueEvening(check, sure, 1, 6 * 99, 6, 0, 0);
        sure.out(0, true);
        dueEvening(check, sure, 1, 5 * 99, 5, 0, 5);
    }

    private static void seeds(Check check) {
        ChinRow row = check.told(TWO + "hold 5; time 1; pick 0;");
        dueEvening(check, row, 0, 1, 1, 0, 1);
        dueEvening(check, row, 9999, 1, 1, 0, 1);
        dueEvening(check, row, -1, -1, -1, -1, -1);
        dueEvening(check, row, 10000, -1, -1, -1, -1);
        for (int far : Edges.FAR) if (far < 0 || far > 9999) dueEvening(check, row, far, -1, -1, -1, -1);
    }

    private static void eveningOthers(Check check) {
        ChinRow row = check.told(TWO);
        check.due("what -1", row.evening(1, -1), -1);
        check.due("what 4", row.evening(1, 4), -1);
        for (int far : Edges.FAR) check.due("what " + far, row.evening(1, far), -1);
        row.out(1, true);
        dueEvening(check, row, 1, 0, 0, 0, 0); // one alone: no try, and it is at its neck
        check.due("what 4 of one", row.evening(1, 4), -1);
        row.out(1, false);
        row.out(0, true);
        dueEvening(check, row, 1, 0, 0, 0, 1);
    }

    private static void nobodyInRow(Check check) {
        dueEvening(check, new ChinRow(), 0, -1, -1, -1, -1);
        ChinRow row = check.told(TWO);
        row.out(0, true);
        row.out(1, true);
        dueEvening(check, row, 0, -1, -1, -1, -1);
        dueEvening(check, row, 9999, -1, -1, -1, -1);
        row.out(1, false);
        check.due("one in again", row.evening(0, 3), 1);
    }
}
