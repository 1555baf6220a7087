import java.io.IOException;

/** Edges of the TAPE and its TOKENS, of a new object (promise 1) and of feed (promise 2). */
public final class EdgeTapeTest {
    private static final String TWO = "man a plain tall 1 neck 1;woman b plain tall 1 neck 1;";

    public static void main(String[] args) throws IOException {
        Edges edges = new Edges("EdgeTapeTest");
        edges.edge("Terms", "The TAPE has at most 1,000 signs", EdgeTapeTest::mostSigns);
        edges.edge("Terms", "signs, 10 and 32 .. 126", EdgeTapeTest::whichSigns);
        edges.edge("Terms", "what reads it takes it: it is empty then", EdgeTapeTest::taken);
        edges.edge("Terms", "TOKENS, each as long as can be", EdgeTapeTest::asLong);
        edges.edge("Terms", "blanks (10, 32) between where one likes", EdgeTapeTest::blanks);
        edges.edge("Terms", "WORDS (letters a .. z, 8 at most)", EdgeTapeTest::words);
        edges.edge("Terms", "NUMBERS (1 to 4 digits", EdgeTapeTest::numbers);
        edges.edge("Terms", "a letter may stand right behind)", EdgeTapeTest::letterBehind);
        edges.edge("Terms", "the signs ( ) < = + - * ;", EdgeTapeTest::signs);
        edges.edge("Terms", "All else (a longer WORD or NUMBER, too, at its first sign) is none", EdgeTapeTest::none);
        edges.edge("Promise 1", "`ChinRow()`: Nobody.", EdgeTapeTest::nobody);
        edges.edge("Promise 1", "The constants: `NONE = -1`: None.", c -> c.due("NONE", ChinRow.NONE, -1));
        edges.edge("Promise 2", "Up to 24 signs come behind the TAPE", EdgeTapeTest::upTo24);
        edges.edge("Promise 2", "the bytes of a, b, c, of each the highest first", EdgeTapeTest::highestFirst);
        edges.edge("Promise 2", "others than 10 and 32 .. 126, and", EdgeTapeTest::othersLeftOut);
        edges.edge("Promise 2", "what is beyond 1,000, are left out", EdgeTapeTest::beyondLeftOut);
        edges.edge("Promise 2", "are left out: how many there are", EdgeTapeTest::howMany);
        edges.edge("What it is", "An object is used for at most 512 calls after it has been made", EdgeTapeTest::calls);
        edges.end();
    }

    private static String blanks(int count) {
        return " ".repeat(count);
    }

    private static void mostSigns(Check check) {
        ChinRow row = new ChinRow();
        Check.feed(row, blanks(999));
        check.due("signs after 999", row.count(10), 999);
        check.due("feed of the 1,000th", row.feed(';', 0, 0), 1000);
        check.due("feed of the 1,001st", row.feed(';', 0, 0), 1000);
        check.due("signs at last", row.count(10), 1000);
        check.due("party: the 1,000th is the last one", row.party(), 1 + 16 * 999);
        check.read(blanks(1000 - TWO.length()) + TWO, 0);
        check.read(blanks(994) + "turns;", 0);
        check.read(blanks(995) + "turns^;", 1);
        check.read("^" + "a".repeat(1000), 1);
        check.read("^" + "1".repeat(1000), 1);
        check.read("^" + ";".repeat(1000), 1);
        check.read(blanks(1000), 0);
        String law = TWO + "time 7" + "+1-1".repeat(234);
        law += blanks(999 - law.length()) + ";";
        for (int i = 0; i < 4; i++) { // one that fills the tape leaves room for the next one
            check.read(row, law, 0);
            check.due("seconds by a law that fills the tape", row.seconds(0, 1, 0), 7);
        }
    }

    private static void whichSigns(Check check) {
        for (int sign = 0; sign < 256; sign++) {
            int due = sign == 10 || sign >= 32 && sign <= 126 ? 1 : 0;
            check.due("feed of sign " + sign, new ChinRow().feed(sign, 0, 0), due);
            check.due("feed of sign " + sign + ", highest", new ChinRow().feed(0, (long) sign << 56, 0), due);
        }
    }

    private static void taken(Check check) {
        ChinRow row = check.told(TWO);
        check.due("signs after a party", row.count(10), 0);
        check.read(row, "turns ^boy;", 1);
        check.due("signs after a fault", row.count(10), 0);
        check.due("people after a fault", row.count(0), 2);
        check.due("party of the empty tape", row.party(), 0);
        check.due("people after it", row.count(0), 0);
        check.due("feed begins anew", row.feed(';', 0, 0), 1);
        check.due("place counts anew", row.party(), 1);
    }

    private static void asLong(Check check) {
        check.read("^manx plain tall 1 neck 1;", 1);
        check.read("^turnspick 5;", 1);
        check.read("man mana plain tall 1 neck 1;", 0);
        check.read("man nota plain tall 1 neck 1; pick ^nota", 1);
        check.read("hold ^notstep;", 1);
        check.read("man a plain tall 1 ^0 neck 1;", 1);
        check.due("12 is one number", check.told(TWO + "time 12;").seconds(0, 1, 0), 12);
    }

    private static void blanks(Check check) {
        check.read("turns;pick 5;", 0);
        check.read(" \n\n turns\n;\n pick \n 5 \n ; \n", 0);
        check.read("hold(1+2)*3<not(4)and 5;", 0);
        check.read("^tu rns;", 1);
        check.read("^tu\nrns;", 1);
        check.read("pick 5 ^5;", 1);
        check.read("\n^boy", 1);
        check.read("   ^boy", 1);
        check.read("tur\tns;", 0); // 9 is no blank: it never comes to the tape
        check.read("turns\r;", 0);
    }

    private static void words(Check check) {
        check.read("man z plain tall 1 neck 1;", 0);
        check.read("man azazazaz plain tall 1 neck 1;", 0);
        check.read("man ^azazazaza plain tall 1 neck 1;", 1);
        check.read("man ^A plain tall 1 neck 1;", 1);
        check.read("man ^Z plain tall 1 neck 1;", 1);
        check.read("man a^Z plain tall 1 neck 1;", 1);
        check.read("man a^` plain tall 1 neck 1;", 1);
        check.read("man z^{ plain tall 1 neck 1;", 1);
        check.read("man a^_b plain tall 1 neck 1;", 1);
        check.read("man a^1 plain tall 1 neck 1;", 1);
        check.read("man abcdefgh plain tall 1 neck 1; woman abcdefg plain tall 1 neck 1; pair abcdefgh abcdefg;", 0);
        check.read("man abcdefgh plain tall 1 neck 1; woman ^abcdefgh", 3);
        check.read("man abcdefgh plain tall 1 neck 1; woman bbcdefgh plain tall 1 neck 1;", 0);
    }

    private static void numbers(Check check) {
        check.read("time ^+1;", 1);
        check.due("one digit", check.told(TWO + "time 7;").seconds(0, 1, 0), 7);
        check.due("four digits", check.told(TWO + "time 9999 - 9950;").seconds(0, 1, 0), 49);
        check.due("noughts ahead", check.told(TWO + "time 0042;").seconds(0, 1, 0), 42);
        check.due("0 and 9 are digits", check.told(TWO + "time 90;").seconds(0, 1, 0), 90);
        check.read("time ^10000;", 1);
        check.read("time ^00001;", 1);
        check.read("pick ^00001;", 1);
        check.read("time 1^/1;", 1);
        check.read("time 1^:1;", 1);
        check.read("time 1^.1;", 1);
    }

    private static void letterBehind(Check check) {
        check.due("tall 5neck", check.told("man a plain tall 5neck 1;").person(0, 2), 5);
        check.due("9999or", check.told(TWO + "time 9999or 0;").seconds(0, 1, 0), 1);
        check.read("time ^99999or 0;", 1);
        check.read("pick 5^a;", 1);
        check.read("time 1^a;", 1);
    }

    private static void signs(Check check) {
        check.due("( ) + *", check.told(TWO + "time (1+2)*3;").seconds(0, 1, 0), 9);
        check.due("- <", check.told(TWO + "time 60-(1<2);").seconds(0, 1, 0), 59);
        check.due("=", check.told(TWO + "time 60+(1=2);").seconds(0, 1, 0), 60);
        for (char sign = 33; sign < 127; sign++) {
            boolean told = "()<=+-*;".indexOf(sign) >= 0;
            boolean wordOrNumber = sign >= 'a' && sign <= 'z' || sign >= '0' && sign <= '9';
            if (!told && !wordOrNumber) {
                check.read("time 1 ^" + sign + " 2;", 1);
                check.read("time ^" + sign + "1;", 1);
                check.read("turns ^" + sign, 1);
                check.read("^" + sign, 1);
            }
        }
    }

    private static void none(Check check) {
        check.read("^abcdefghijk;", 1);
        check.read("turns;\n ^turnsturns;", 1);
        check.read("time 1 + ^12345678901234567890;", 1);
        check.read("time 1 + ^4294967297;", 1); // as an int it would be 1
        check.read("pick ^10000;", 1); // none at all, not a number too great
        check.read("man ^mannnnnnn plain;", 1);
        check.read("man a plain tall 1 neck 1; pair ^abcdefghi a;", 1);
        check.read("turns ^\"boy\";", 1);
        check.read("turns; ^~", 1);
    }

    private static void nobody(Check check) {
        ChinRow row = new ChinRow();
        int[] counts = {0, 0, 0, -1, 0, 3, 0, 0, 0, 0, 0};
        for (int i = 0; i < counts.length; i++) check.due("count(" + i + ")", row.count(i), counts[i]);
        for (int i = -1; i < 8; i++) {
            check.due("row(" + i + ")", row.row(i), -1);
            check.due("laughs(" + i + ")", row.laughs(i), -1);
            check.due("outer(" + i + ")", row.outer(i), -1);
            check.due("fruit(" + i + ")", row.fruit(i), false);
            check.due("out(" + i + ", true)", row.out(i, true), false);
            check.due("out(" + i + ", false)", row.out(i, false), false);
            check.due("mark(" + i + ", true)", row.mark(i, true), false);
            for (int k = -1; k < 8; k++) {
                check.due("person(" + i + ", " + k + ")", row.person(i, k), -1);
                check.due("change(" + i + ", " + k + ")", row.change(i, k), false);
                check.due("chance(" + i + ", " + k + ", 0)", row.chance(i, k, 0), -1);
                check.due("seconds(" + i + ", " + k + ", 0)", row.seconds(i, k, 0), -1);
                check.due("hurry(" + i + ", " + k + ", 5, true)", row.hurry(i, k, 5, true), -1);
            }
        }
        nobodyAtAll(check, new ChinRow());
        nobodyAtAll(check, check.told(""));
    }

    private static void nobodyAtAll(Check check, ChinRow row) {
        long[] answers = {row.mean(0), row.mean(1), row.falls(-1, 0), row.falls(-1, 1), row.falls(0, 0), row.least(0),
            row.least(1), row.least(2), row.orders(), row.best(), row.bought(1), row.bought(20), row.even(0), row.even(1),
            row.evening(0, 0), row.evening(0, 3), row.undo() ? 1 : 0};
        long[] due = {0, 1, 1, 1, -1, 0, 1, -1, 1, -1, 1000000, 1000000, -1, -1, -1, -1, 0};
        for (int i = 0; i < due.length; i++) check.due("answer " + i + " of nobody", answers[i], due[i]);
    }

    private static void upTo24(Check check) {
        ChinRow row = new ChinRow();
        long eight = Check.eight("        ", 0);
        check.due("feed of no sign", row.feed(0, 0, 0), 0);
        check.due("feed of one", row.feed(0, 0, 32), 1);
        check.due("feed of eight", row.feed(0, eight, 0), 9);
        check.due("feed of 24", row.feed(eight, eight, eight), 33);
        row = new ChinRow();
        Check.feed(row, "man a pla");
        Check.feed(row, "in tall 1 n");
        Check.feed(row, "eck 1;boy");
        check.due("they come behind", row.party(), 1 + 16 * "man a plain tall 1 neck 1;".length());
    }

    private static void highestFirst(Check check) {
        ChinRow row = new ChinRow();
        row.feed(Check.eight("man a pl", 0), Check.eight("ain tall", 0), Check.eight(" 12 neck", 0));
        row.feed(0x2000_0000_0000_0033L, 0x3bL << 56, 0);
        check.due("party", row.party(), 0);
        check.due("tall", row.person(0, 2), 12);
        check.due("neck", row.person(0, 3), 3);
    }

    private static void othersLeftOut(Check check) {
        ChinRow row = new ChinRow();
        check.due("feed of others alone", row.feed(0x0001090b0c0d1f7fL, 0x8089a0c3dfe1f5ffL, -1L), 0);
        check.due("feed among others", row.feed(0x74ff751f72096e7fL, 0xff73L << 40, 0x80803b8080808080L), 6);
        check.due("party of turns;", row.party(), 0);
        check.due("feed of 10, 32, 126", row.feed(0x0a09_200b_7e7f_1f00L, 0, 0), 3);
        check.due("party", row.party(), 1 + 16 * 2);
    }

    private static void beyondLeftOut(Check check) {
        ChinRow row = new ChinRow();
        String text = blanks(988) + TWO.substring(0, 12) + "tail";
        Check.feed(row, text.substring(0, 990));
        long[] last = {Check.eight(text, 990), Check.eight(text, 998), 0};
        check.due("feed over the end", row.feed(last[0], last[1], last[2]), 1000);
        check.due("feed when it is full", row.feed(-1, Check.eight("12345678", 0), 0), 1000);
        check.due("party: what is beyond isn't there", row.party(), 1 + 16 * 1000); // 'man a plain ' and the end
        check.due("nor does it come later", row.count(10), 0);
        check.due("feed anew", row.feed(32, 0, 0), 1);
        row = new ChinRow();
        Check.feed(row, blanks(990) + "turns;pick 5;");
        check.due("the first ten of 13 come", row.party(), 1 + 16 * 1000);
        row = new ChinRow();
        Check.feed(row, blanks(990) + "turns;   x");
        check.due("the tenth comes", row.party(), 1 + 16 * 999);
    }

    private static void howMany(Check check) {
        ChinRow row = new ChinRow();
        for (int i = 1; i <= 1010; i++) check.due("feed of one sign, the " + i + ".", row.feed(0, 'x', 0), Math.min(i, 1000));
    }

    private static void calls(Check check) {
        ChinRow row = new ChinRow();
        Check.feed(row, TWO + "hold 5; time 5;"); // three calls
        check.due("party", row.party(), 0);
        for (int call = 5; call <= 508; call++) {
            if (call % 3 == 0) row.change(0, 1);
            else if (call % 3 == 1) check.due("mean in call " + call, row.mean(0), 13);
            else check.due("orders in call " + call, row.orders(), 2);
        }
        check.due("mean in call 509", row.mean(1), 1);
        check.due("count in call 510", row.count(9), 20);
        check.due("undo in call 511", row.undo(), true);
        check.due("row in call 512", row.row(0), 1);
    }
}
