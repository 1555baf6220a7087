/** Promises 1 to 5 and 26: a new object, feed, party with its faults, person, row, count. */
public final class TellTest {
    private static final Check CHECK = new Check("TellTest");
    private static final String TWO = "man aa plain tall 1 neck 1; woman bb shy tall 2 neck 2; ";
    private static final String SEVEN = TWO + "man c plain tall 1 neck 1; man d plain tall 1 neck 1; "
        + "man e plain tall 1 neck 1; man f plain tall 1 neck 1; woman g plain tall 1 neck 1; ";
    private static final String FOUR = "fruit p size 1 slip 1; fruit q size 2 slip 2; fruit r size 3 slip 3; fruit s size 4 slip 4; ";

    public static void main(String[] args) {
        newObject();
        feed();
        tape();
        tokens();
        numbers();
        names();
        kinds();
        twos();
        once();
        tooMany();
        laws();
        nesting();
        stays();
        anew();
        againAndAgain();
        person();
        count();
        CHECK.end();
    }

    private static void read(String marked, int kind) {
        CHECK.read(marked, kind);
    }

    private static void newObject() {
        ChinRow row = new ChinRow();
        int[] counts = {0, 0, 0, -1, 0, 3, 0, 0, 0, 0, 0};
        for (int i = 0; i < counts.length; i++) CHECK.due("new count(" + i + ")", row.count(i), counts[i]);
        CHECK.due("new row(0)", row.row(0), -1);
        CHECK.due("new person(0, 0)", row.person(0, 0), -1);
        CHECK.due("NONE", ChinRow.NONE, -1);
    }

    private static void feed() {
        ChinRow row = new ChinRow();
        CHECK.due("feed of nothing", row.feed(0, 0, 0), 0);
        CHECK.due("feed of others", row.feed(0x01090b0d1f7f80ffL, -1L, 0x8081828384858687L), 0);
        CHECK.due("feed of the edges", row.feed(0x0a207e0000000000L, 0, 0), 3);
        row.party();
        CHECK.due("feed of 'turns;' by three", row.feed(0x7475L, 0x0072000000006e00L, 0x730000000000003bL), 6);
        CHECK.due("party of it", row.party(), 0);
        long blanks = 0x2020202020202020L;
        for (int i = 1; i <= 41; i++) CHECK.due("feed of blanks", row.feed(blanks, blanks, blanks), 24 * i);
        CHECK.due("feed to the end", row.feed(blanks, 0x2020202020202074L, 0x75726e733b3b3b3bL), 1000);
        CHECK.due("feed beyond", row.feed(0x3b3b3b3b3b3b3b3bL, 0, 0), 1000);
        CHECK.due("count(10)", row.count(10), 1000);
        CHECK.due("party cut at 1,000", row.party(), 1 + 16 * 999);
        CHECK.due("count(10)", row.count(10), 0);
    }

    private static void tape() {
        ChinRow row = new ChinRow();
        Check.feed(row, "tur");
        Check.feed(row, "ns\n;");
        CHECK.due("party in pieces", row.party(), 0);
        CHECK.due("the tape is taken", row.count(10), 0);
        Check.feed(row, "boy");
        CHECK.due("party of boy", row.party(), 1);
        CHECK.due("the tape is taken with a fault, too", row.count(10), 0);
        CHECK.due("party of the empty tape", row.party(), 0);
        char[] blanks = new char[1000];
        java.util.Arrays.fill(blanks, ' ');
        read(new String(blanks), 0);
        read(new String(blanks, 0, 994) + "turns;", 0);
        char[] letters = new char[1000];
        java.util.Arrays.fill(letters, 'q');
        read("^" + new String(letters), 1);
    }

    private static void tokens() {
        read("^boy", 1);
        read("^;", 1);
        read("^5", 1);
        read("^Man", 1);
        read("man a^Bc plain tall 1 neck 1;", 1);
        read("man abcdefgh plain tall 1 neck 1;", 0);
        read("man ^abcdefghi plain tall 1 neck 1;", 1);
        read("man aa plain tall10neck2;", 0);
        read("man\naa\nplain tall 0099neck 0009;", 0);
        read("man aa plain tall ^00099 neck 2;", 1);
        read("man a^1 plain tall 1 neck 1;", 1);
        read("turns^", 1);
        read("turns \n ^", 1);
        read("turns ^1", 1);
        read("turns;^.", 1);
        read("turns ^, boy", 1);
        read("hold 1 ^> 2;", 1);
        read("^pla in", 1);
        read("^_", 1);
        read("^front ;", 1);
        read("^and ;", 1);
    }

    private static void numbers() {
        read("man aa plain tall ^100", 4);
        read("man aa plain tall 99 neck ^10", 4);
        read("man aa plain tall 99 neck 9;", 0);
        read("man aa plain tall ^x", 1);
        read("man aa plain tall 1 ^tall", 1);
        read("man aa plain tall 1 neck ^;", 1);
        read("man aa plain tall 1 neck 1 ^2", 1);
        read("man aa plain ^neck 1", 1);
        read("fruit ff size ^10", 4);
        read("fruit ff size 9 slip ^10", 4);
        read("fruit ff size 9 slip ^9999", 4);
        read("fruit ff size 9 slip 9;", 0);
        read("fruit ff ^slip 9", 1);
        read("fruit ff size 1 ^size 1", 1);
        read("pick ^100", 4);
        read("pick 99;", 0);
        read("pick 0;", 0);
        read("pick ^-1;", 1);
        read("pick ^;", 1);
        read("pick ^10000;", 1);
    }

    private static void names() {
        String[] words = {"man", "woman", "tall", "neck", "fruit", "size", "slip", "hold", "time", "laugh", "pair",
            "quarrel", "fall", "front", "there", "pick", "turns", "plain", "beard", "pearls", "shy", "stoops", "cold",
            "not", "and", "or"};
        for (String word : words) {
            read("man ^" + word + " plain tall 1 neck 1;", 1);
            read("fruit ^" + word, 1);
            read(TWO + "pair ^" + word, 1);
            read(TWO + "quarrel aa ^" + word, 1);
        }
        read("man step plain tall 1 neck 1; woman pace cold tall 1 neck 1; pair pace step;", 0);
        read("man ^7", 1);
        read("man ^", 1);
        read(TWO + "man ^bb", 3);
        read(TWO + "woman ^aa", 3);
        read(TWO + "fruit ^aa", 3);
        read(FOUR + "man ^r", 3);
        read("fruit p size 1 slip 1; fruit ^p", 3);
    }

    private static void kinds() {
        String[] kinds = {"plain", "beard", "pearls", "shy", "stoops", "cold"};
        for (int i = 0; i < kinds.length; i++) {
            ChinRow row = CHECK.told("man x " + kinds[i] + " tall 1 neck 1;");
            CHECK.due("person(0, 0) of " + kinds[i], row.person(0, 0), i);
        }
        read("man aa ^bold", 1);
        read("man aa ^turns tall 1", 1);
        read("man aa ^not tall 1", 1);
        read("man aa ^tall 1", 1);
    }

    private static void twos() {
        read(TWO + "pair aa ^cc", 2);
        read(TWO + "pair ^cc aa", 2);
        read("quarrel ^xx", 2);
        read("fruit ff size 1 slip 1; quarrel ^ff", 2);
        read("pair ^aa bb; " + TWO, 2);
        read(TWO + "pair aa ^aa", 3);
        read(TWO + "pair aa bb; pair aa ^bb", 3);
        read(TWO + "pair aa bb; pair bb ^aa", 3);
        read(TWO + "pair aa bb; quarrel bb ^aa", 3);
        read(TWO + "quarrel aa bb; pair aa ^bb", 3);
        read(TWO + "pair aa ^;", 1);
        read(TWO + "pair aa bb ^bb;", 1);
        read(TWO + "pair aa bb;", 0);
        read(SEVEN + "pair aa bb; pair aa c; quarrel aa d; quarrel g aa; pair f g; pair bb ^aa", 3);
    }

    private static void once() {
        read("fall front; ^fall", 3);
        read("fall there; ^fall front;", 3);
        read("fall ^back", 1);
        read("fall ^;", 1);
        read("hold 1; ^hold 1;", 3);
        read("time 1; ^time", 3);
        read("laugh 1; ^laugh", 3);
        read("pick 1; ^pick", 3);
        read("turns; ^turns", 3);
        read("turns; pick 1; laugh 1; time 1; hold 1; fall there;", 0);
    }

    private static void tooMany() {
        read(SEVEN, 0);
        read(SEVEN + "^man", 5);
        read(SEVEN + "^woman aa", 5);
        read(FOUR, 0);
        read(FOUR + "^fruit", 5);
        read(SEVEN + FOUR + "pair aa g;", 0);
    }

    private static void laws() {
        read("laugh ^pace", 1);
        read("laugh ^size", 1);
        read("laugh ^slip", 1);
        read("laugh step + neck;", 0);
        read("hold step + neck + size + slip + pace;", 0);
        read("time step * neck - size < slip or pace;", 0);
        read("hold ^tall", 1);
        read("hold ^", 1);
        read("hold ^;", 1);
        read("time slip^", 1);
        read("time 1 ^2", 1);
        read("time 1 ^)", 1);
        read("time (1 ^;", 1);
        read("time ( ^)", 1);
        read("time (1)^(2)", 1);
        read("time 1 + ^+ 1", 1);
        read("time ^- 1", 1);
        read("laugh step < 1 ^< 2", 1);
        read("laugh step = 1 ^< 2", 1);
        read("laugh step < 1 + 1 * 2 ^= 2", 1);
        read("laugh (step < 1) < 2;", 0);
        read("laugh 1 < 2 and 3 < 4 or 5 = 6;", 0);
        read("laugh (1 < 2 and 3 < 4 ^< 5", 1);
        read("laugh 1 ^not 2", 1);
        read("laugh 9999 + ^10000", 1);
        read("laugh 1 < ^= 2;", 1);
    }

    private static void nesting() {
        read("hold not not not not 1;", 0);
        read("hold not not not not not ^1", 5);
        read("hold not not not not not ^not", 5);
        read("hold not not not not not ^(", 5);
        read("hold not not not not not ^step", 5);
        read("hold not not not not not ^;", 1);
        read("hold not not not not not ^tall", 1);
        read("hold not not not not not ^12345", 1);
        read("laugh not not not not not ^pace", 1);
        read("hold not not not not not^", 1);
        read("hold ((((1))));", 0);
        read("hold (((((^1", 5);
        read("hold (not (not 1)) + not not not not not ^1", 5);
        read("hold (not (not (^1", 5);
        read("hold not(not(1)+not 1);", 0);
        read("hold 1 + (2 * (3 + (4 - (5 + 6 * 7) < 8) = 9) and 10) or 11;", 0);
        read("hold 1 + (2 * (3 + (4 - (5 + (^6", 5);
    }

    private static void stays() {
        ChinRow row = CHECK.told(SEVEN + FOUR + "pick 9; fall front; pair aa bb; quarrel aa c; hold 5;");
        row.change(0, 1);
        row.fruit(2);
        row.pace(3);
        row.out(6, true);
        row.mark(1, false);
        String faulty = "man x cold tall 3 neck 3; pick 7; turns; hold 1; boy";
        CHECK.due("party with a fault", Check.tell(row, faulty), 1 + 16 * faulty.indexOf("boy"));
        int[] counts = {7, 4, 6, 2, 3, 9, 1, 1, 1, 4, 0};
        for (int i = 0; i < counts.length; i++) CHECK.due("count(" + i + ") after a fault", row.count(i), counts[i]);
        CHECK.dueRow("a fault", row, "102345");
        CHECK.due("person(0, 0) after a fault", row.person(0, 0), 0);
        CHECK.due("chance after a fault", row.chance(0, 2, 0), 5);
        CHECK.due("mark after a fault", row.mark(1, true), true);
    }

    private static void anew() {
        ChinRow row = CHECK.told(SEVEN + FOUR + "pick 9; fall front; pair aa bb; quarrel aa c; hold 5; time 7; laugh 0; turns;");
        row.change(0, 1);
        row.fruit(2);
        row.pace(3);
        row.out(6, true);
        row.mark(1, false);
        CHECK.due("party anew", Check.tell(row, TWO), 0);
        int[] counts = {2, 0, 2, -1, 0, 3, 0, 0, 0, 0, 0};
        for (int i = 0; i < counts.length; i++) CHECK.due("count(" + i + ") anew", row.count(i), counts[i]);
        CHECK.dueRow("a new party", row, "01");
        CHECK.due("undo anew", row.undo(), false);
        CHECK.due("mark anew", row.mark(1, true), false);
        CHECK.due("chance anew", row.chance(1, 0, 0), 7);
        CHECK.due("seconds anew", row.seconds(1, 0, 0), 9);
        CHECK.due("laughs anew", row.laughs(1), 3);
        CHECK.due("orders anew", row.orders(), 2);
        Check.tell(row, SEVEN + FOUR);
        CHECK.dueRow("seven", row, "0123456");
        CHECK.due("the fruit", row.count(3), 0);
        CHECK.due("party of nothing", row.party(), 0);
        CHECK.due("nobody is there", row.count(0) + row.count(1) + row.count(2), 0);
    }

    private static void againAndAgain() {
        ChinRow row = new ChinRow();
        StringBuilder law = new StringBuilder("0");
        for (int i = 0; i < 150; i++) law.append("+0");
        for (int i = 0; i < 20; i++) {
            String text = TWO + "hold " + law + "+" + i % 10 + "; time " + law + "+" + (i + 1) + ";";
            CHECK.due("party of long laws", Check.tell(row, text), 0);
            CHECK.due("seconds by a long law", row.seconds(1, 0, 0), i + 1);
            CHECK.due("chance by a long law", row.chance(1, 0, 0), Math.max(0, i % 10 - 1));
        }
        StringBuilder full = new StringBuilder("man a plain tall 0 neck 0;man b plain tall 0 neck 0;time 7");
        while (full.length() < 996) full.append("+1-1");
        while (full.length() < 999) full.append(' ');
        row = CHECK.told(full.append(';').toString());
        CHECK.due("seconds by a law that fills the tape", row.seconds(0, 1, 0), 7);
    }

    private static void person() {
        ChinRow row = CHECK.told("woman x cold tall 42 neck 7; man y pearls tall 0 neck 0; man z plain tall 99 neck 9;");
        int[][] told = {{5, 1, 42, 7, 0}, {2, 0, 0, 0, 1}, {0, 0, 99, 9, 2}};
        for (int i = 0; i < 3; i++) {
            for (int k = 0; k < 5; k++) CHECK.due("person(" + i + ", " + k + ")", row.person(i, k), told[i][k]);
            CHECK.due("person(i, 5)", row.person(i, 5), -1);
            CHECK.due("person(i, -1)", row.person(i, -1), -1);
        }
        CHECK.due("person(3, 0)", row.person(3, 0), -1);
        CHECK.due("person(-1, 0)", row.person(-1, 0), -1);
        CHECK.due("person(MIN, MIN)", row.person(Integer.MIN_VALUE, Integer.MIN_VALUE), -1);
        row.out(1, true);
        CHECK.due("person(1, 4) out", row.person(1, 4), -1);
        CHECK.due("person(1, 3) out", row.person(1, 3), 0);
        CHECK.due("person(2, 4) closed up", row.person(2, 4), 1);
        CHECK.due("row(0)", row.row(0), 0);
        CHECK.due("row(1)", row.row(1), 2);
        CHECK.due("row(2)", row.row(2), -1);
        CHECK.due("row(-1)", row.row(-1), -1);
        CHECK.due("row(MAX)", row.row(Integer.MAX_VALUE), -1);
    }

    private static void count() {
        ChinRow row = CHECK.told(SEVEN + "fruit p size 1 slip 1; pick 0; fall there; pair aa bb; pair c d; quarrel aa c;");
        Check.feed(row, "abc");
        row.pace(2);
        row.out(0, true);
        int[] counts = {7, 1, 6, 0, 2, 0, 0, 2, 1, 2, 3};
        for (int i = 0; i < counts.length; i++) CHECK.due("count(" + i + ")", row.count(i), counts[i]);
        CHECK.due("count(11)", row.count(11), -1);
        CHECK.due("count(-1)", row.count(-1), -1);
        CHECK.due("count(MAX)", row.count(Integer.MAX_VALUE), -1);
        CHECK.due("front", CHECK.told("fall front;").count(6), 1);
    }
}
