import java.io.IOException;

/** Edges of a PARTY, of an E and of the FAULTS (promise 3). */
public final class EdgePartyTest {
    private static final String TWO = "man a plain tall 1 neck 1; woman b plain tall 1 neck 1; ";
    private static final String[] RESERVED = {"man", "woman", "tall", "neck", "fruit", "size", "slip", "hold", "time", "laugh",
        "pair", "quarrel", "fall", "front", "there", "pick", "turns", "plain", "beard", "pearls", "shy", "stoops", "cold",
        "not", "and", "or"};

    public static void main(String[] args) throws IOException {
        Edges edges = new Edges("EdgePartyTest");
        parties(edges);
        expressions(edges);
        faults(edges);
        edges.end();
    }

    private static void parties(Edges edges) {
        edges.edge("Terms", "PARTY: any number of", EdgePartyTest::anyNumber);
        edges.edge("Terms", "man, woman: PEOPLE, 7 at most together", EdgePartyTest::mostPeople);
        edges.edge("Terms", "PEOPLE, 7 at most together, numbered as told", EdgePartyTest::numbered);
        edges.edge("Terms", "KIND: plain, beard, pearls, shy, stoops, cold", EdgePartyTest::kinds);
        edges.edge("Terms", "tall 0 to 99", EdgePartyTest::tall);
        edges.edge("Terms", "neck 0 to 9", EdgePartyTest::neck);
        edges.edge("Terms", "fruit: 4 at most, numbered as told", EdgePartyTest::mostFruits);
        edges.edge("Terms", "size, slip 0 to 9", EdgePartyTest::sizeAndSlip);
        edges.edge("Terms", "pair, quarrel: of two PEOPLE told, not the same", EdgePartyTest::twos);
        edges.edge("Terms", "each two once in all", EdgePartyTest::onceInAll);
        edges.edge("Terms", "fall, hold, time, laugh, pick (seconds, 0 to 99; 3 without), turns: once each", EdgePartyTest::once);
        edges.edge("Terms", "pick (seconds, 0 to 99; 3 without)", EdgePartyTest::pick);
        edges.edge("Terms", "without fall it is there", EdgePartyTest::withoutFall);
        edges.edge("Terms", "A NAME is another WORD than man, woman, tall, neck, fruit, size, slip, hold, time, laugh, pair, quarrel, "
            + "fall, front, there, pick, turns, the KINDS, not, and, or", EdgePartyTest::names);
        edges.edge("Terms", "no two (PEOPLE, FRUITS) are alike", EdgePartyTest::alike);
    }

    private static void expressions(Edges edges) {
        edges.edge("Terms", "E: TEST { and TEST or or TEST }, from the left", EdgePartyTest::fromTheLeft);
        edges.edge("Terms", "TEST: SUM, or SUM < SUM, or SUM = SUM", EdgePartyTest::tests);
        edges.edge("Terms", "SUM: PRODUCT { + or - PRODUCT }; PRODUCT: PART { * PART }", EdgePartyTest::sums);
        edges.edge("Terms", "PART: a NUMBER, a fact, not PART, ( E )", EdgePartyTest::parts);
        edges.edge("Terms", "no PART lies within 5 of not and ( )", EdgePartyTest::within);
        edges.edge("Terms", "step (how much taller one is than the other, in all)", EdgePartyTest::step);
        edges.edge("Terms", "neck (of the one who takes)", EdgePartyTest::takersNeck);
        edges.edge("Terms", "in laugh: step, neck alone", EdgePartyTest::inLaugh);
        edges.edge("Terms", "neck alone (of the one who sees it)", EdgePartyTest::seersNeck);
        edges.edge("Terms", "Of not, and, or, < and = comes 1 or 0", EdgePartyTest::oneOrNought);
        edges.edge("Terms", "what is not 0 is so", EdgePartyTest::notNought);
        edges.edge("Terms", "ints wrap", EdgePartyTest::wrap);
        edges.edge("Terms", "Without hold: 8 - pace", c -> withoutLaw(c, true));
        edges.edge("Terms", "without time: 9 - pace * 2", c -> withoutLaw(c, false));
        edges.edge("Terms", "without laugh: 1", c -> c.due("laughs", c.told(TWO).laughs(0), 3));
    }

    private static void faults(Edges edges) {
        edges.edge("Terms", "FAULTS, kind + 16 * the place (from 0) of a token", EdgePartyTest::place);
        edges.edge("Terms", "the end being one at the text's length", EdgePartyTest::theEnd);
        edges.edge("Terms", "of the first token from the left that is wrong the least", EdgePartyTest::firstAndLeast);
        edges.edge("Terms", "1 it is none, or can't stand there", EdgePartyTest::cantStand);
        edges.edge("Terms", "2 a NAME of none of the PEOPLE told (behind pair, quarrel)", EdgePartyTest::notTold);
        edges.edge("Terms", "3 a NAME told already (behind man, woman, fruit)", EdgePartyTest::toldAlready);
        edges.edge("Terms", "the second NAME that is the first one", c -> {
            c.read(TWO + "pair a ^a;", 3);
            c.read(TWO + "quarrel b ^b;", 3);
            c.read(TWO + "pair a b; pair b ^b;", 3);
        });
        edges.edge("Terms", "or of two told so already (by pair or quarrel, either way round)", EdgePartyTest::toldSo);
        edges.edge("Terms", "fall, hold, time, laugh, pick, turns a second time", EdgePartyTest::secondTime);
        edges.edge("Terms", "4 a NUMBER that is not as told", EdgePartyTest::notAsTold);
        edges.edge("Terms", "5 one too many: the words man, woman of an eighth of the PEOPLE", EdgePartyTest::eighth);
        edges.edge("Terms", "fruit of a fifth", EdgePartyTest::fifth);
        edges.edge("Terms", "not, or a PART, within 5 others", EdgePartyTest::withinOthers);
        edges.edge("Terms", "Without a FAULT it is the PARTY from then on", EdgePartyTest::fromThenOn);
        edges.edge("Terms", "the ROW is as told, FRUIT 0, pace 0, nobody is OUT, no MARK is there, nothing can be undone", EdgePartyTest::anew);
        edges.edge("Promise 3", "The TAPE is read as a PARTY: 0, or its FAULT", EdgePartyTest::readAsParty);
        edges.edge("Promise 3", "(all stays then)", EdgePartyTest::allStays);
    }

    private static String people(int count) {
        StringBuilder text = new StringBuilder();
        for (int i = 0; i < count; i++) {
            text.append(i % 3 == 1 ? "woman " : "man ").append((char) ('a' + i)).append(" plain tall ").append(10 * i + 1).append(" neck ")
                .append(i).append(";");
        }
        return text.toString();
    }

    private static String fruits(int count) {
        StringBuilder text = new StringBuilder();
        for (int i = 0; i < count; i++) text.append("fruit ").append((char) ('p' + i)).append(" size ").append(i).append(" slip ").append(9 - i).append(";");
        return text.toString();
    }

    private static int seconds(Check check, String law) {
        return check.told(TWO + "time " + law + ";").seconds(0, 1, 0);
    }

    // Seconds are 1 to 99, so what an E comes to is seen behind 50 more.
    private static void law(Check check, String law, int due) {
        check.due(law, seconds(check, "50 + (" + law + ")"), 50 + due);
    }

    private static void anyNumber(Check check) {
        check.read("", 0);
        check.read(" ", 0);
        check.read("turns;", 0);
        check.read("^;", 1);
        check.read("turns;^;", 1);
        ChinRow row = check.told("turns; pick 4; laugh 1; time 2; hold 3; fall front; " + fruits(4) + people(7) + "pair a b; quarrel a c;");
        check.due("people", row.count(0), 7);
        check.due("fruits", row.count(1), 4);
        check.due("pick", row.count(5), 4);
        check.due("front", row.count(6), 1);
    }

    private static void mostPeople(Check check) {
        for (int i = 0; i <= 7; i++) check.due("people", check.told(people(i)).count(0), i);
        check.read(people(7) + "^man h plain tall 1 neck 1;", 5);
        check.read(people(7) + "^woman h plain tall 1 neck 1;", 5);
        check.read(people(7).replace("woman", "man") + "^man h plain tall 1 neck 1;", 5);
        check.read(people(7).replace("woman", "man").replace("man", "woman") + "^woman h plain tall 1 neck 1;", 5);
        check.read(people(7) + fruits(4), 0);
    }

    private static void numbered(Check check) {
        ChinRow row = check.told(fruits(1) + people(7));
        for (int i = 0; i < 7; i++) {
            check.due("tall of " + i, row.person(i, 2), 10 * i + 1);
            check.due("neck of " + i, row.person(i, 3), i);
            check.due("row at " + i, row.row(i), i);
            check.due("woman " + i, row.person(i, 1), i % 3 == 1 ? 1 : 0);
        }
        check.due("none behind", row.person(7, 0), -1);
    }

    private static void kinds(Check check) {
        for (int i = 0; i < 6; i++) {
            check.due("kind", check.told("woman x " + Model.KINDS.get(i) + " tall 1 neck 1;").person(0, 0), i);
        }
        for (String word : new String[] {"bald", "beards", "pearl", "shyer", "stoop", "cool", "man", "turns", "not", "or", "tall", "x", "1", ";"}) {
            check.read("man x ^" + word + " tall 1 neck 1;", 1);
        }
    }

    private static void tall(Check check) {
        check.due("tall 0", check.told("man x plain tall 0 neck 1;").person(0, 2), 0);
        check.due("tall 99", check.told("man x plain tall 99 neck 1;").person(0, 2), 99);
        check.due("tall 0099", check.told("man x plain tall 0099 neck 1;").person(0, 2), 99);
        check.read("man x plain tall ^100 neck 1;", 4);
        check.read("woman x plain tall ^9999 neck 1;", 4);
        check.read("man x plain tall ^-1 neck 1;", 1);
        check.read("man x plain tall ^neck 1;", 1);
    }

    private static void neck(Check check) {
        check.due("neck 0", check.told("man x plain tall 1 neck 0;").person(0, 3), 0);
        check.due("neck 9", check.told("man x plain tall 1 neck 9;").person(0, 3), 9);
        check.read("man x plain tall 1 neck ^10;", 4);
        check.read("woman x plain tall 1 neck ^9999;", 4);
        check.read("man x plain tall 1 neck ^-1;", 1);
        check.read("man x plain tall 1 neck ^;", 1);
    }

    private static void mostFruits(Check check) {
        for (int i = 0; i <= 4; i++) check.due("fruits", check.told(fruits(i)).count(1), i);
        check.read(fruits(4) + "^fruit x size 1 slip 1;", 5);
        ChinRow row = check.told(TWO + fruits(4) + "time 1 + size * 10 + slip;");
        for (int i = 0; i < 4; i++) {
            row.fruit(i);
            check.due("seconds with fruit " + i, row.seconds(0, 1, 0), 1 + i * 10 + 9 - i);
        }
    }

    private static void sizeAndSlip(Check check) {
        check.due("the least", check.told(TWO + "fruit x size 0 slip 0; time 50 + size * 10 + slip;").seconds(0, 1, 0), 50);
        check.due("the most", check.told(TWO + "fruit x size 9 slip 9; time size * 10 + slip;").seconds(0, 1, 0), 99);
        check.read("fruit x size ^10 slip 1;", 4);
        check.read("fruit x size 1 slip ^10;", 4);
        check.read("fruit x size 1 slip ^9999;", 4);
        check.read("fruit x size ^-1 slip 1;", 1);
        check.read("fruit x size 1 slip ^;", 1);
    }

    private static void twos(Check check) {
        check.read("pair ^a b;", 2);
        check.read("pair ^a b; " + TWO, 2);
        check.read(TWO + "pair a ^c; man c plain tall 1 neck 1;", 2);
        check.read(TWO + "quarrel ^c a; man c plain tall 1 neck 1;", 2);
        check.read(TWO + "pair a ^a;", 3);
        check.read(TWO + "quarrel a ^a;", 3);
        check.read(TWO + "pair a ^;", 1);
        check.read(TWO + "pair ^;", 1);
        check.due("pairs", check.told(TWO + "pair a b;").count(7), 1);
        check.due("quarrels", check.told(TWO + "quarrel b a;").count(8), 1);
    }

    // All 21 twos of seven PEOPLE, the first of them as pairs.
    private static String allTwos(int pairs) {
        StringBuilder text = new StringBuilder(people(7));
        int told = 0;
        for (char one = 'a'; one < 'h'; one++) {
            for (char other = 'a'; other < one; other++) {
                text.append(told < pairs ? "pair " : "quarrel ").append(one).append(' ').append(other).append(';');
                told++;
            }
        }
        return text.toString();
    }

    private static void onceInAll(Check check) {
        for (int pairs : new int[] {0, 11, 21}) {
            ChinRow row = check.told(allTwos(pairs));
            check.due("pairs", row.count(7), pairs);
            check.due("quarrels", row.count(8), 21 - pairs);
            check.read(allTwos(pairs) + "pair f ^g;", 3);
            check.read(allTwos(pairs) + "quarrel a ^b;", 3);
        }
    }

    private static final String[] ONCE = {"fall front", "fall there", "hold 1", "time 1", "laugh 1", "pick 1", "turns"};

    private static void once(Check check) {
        for (String one : ONCE) {
            check.read(one + ";", 0);
            for (String other : ONCE) {
                boolean again = one.substring(0, 4).equals(other.substring(0, 4));
                check.read(one + "; " + (again ? "^" : "") + other + ";", again ? 3 : 0);
            }
        }
        String all = String.join(";", "fall front", "hold 1", "time 1", "laugh 1", "pick 1", "turns;");
        check.read(all, 0);
        for (String one : ONCE) check.read(all + "^" + one + ";", 3);
    }

    private static void pick(Check check) {
        check.due("pick without", check.told(TWO).count(5), 3);
        check.due("pick 0", check.told("pick 0;").count(5), 0);
        check.due("pick 99", check.told("pick 99;").count(5), 99);
        check.due("seconds with pick 0", check.told(TWO + "hold 0; pick 0; time 1;").evening(1, 0), 200);
        check.due("seconds with pick 99", check.told(TWO + "hold 0; pick 99; time 1;").evening(1, 0), 200 * 100);
        check.due("seconds without pick", check.told(TWO + "hold 0; time 1;").evening(1, 0), 200 * 4);
        check.read("pick ^100;", 4);
        check.read("pick ^9999;", 4);
        check.read("pick ^-1;", 1);
        check.read("pick ^;", 1);
        ChinRow row = check.told("pick 9;");
        check.read(row, "turns;", 0);
        check.due("pick without, behind another party", row.count(5), 3);
    }

    private static void withoutFall(Check check) {
        String three = TWO + "man c plain tall 1 neck 1; hold 5; time 10; pick 0; ";
        check.due("front of none", check.told(three).count(6), 0);
        check.due("front of there", check.told(three + "fall there;").count(6), 0);
        check.due("front of front", check.told(three + "fall front;").count(6), 1);
        check.due("mean of none", check.told(three).mean(0), 40);
        check.due("mean of there", check.told(three + "fall there;").mean(0), 40);
        check.due("mean of front", check.told(three + "fall front;").mean(0), 60);
        ChinRow row = check.told(three + "fall front;");
        check.read(row, three, 0);
        check.due("mean without, behind another party", row.mean(0), 40);
        check.read("fall ^back;", 1);
        check.read("fall ^;", 1);
        check.read("^front;", 1);
    }

    private static void names(Check check) {
        for (String word : RESERVED) {
            check.read("man ^" + word + " plain tall 1 neck 1;", 1);
            check.read("woman ^" + word + " plain tall 1 neck 1;", 1);
            check.read("fruit ^" + word + " size 1 slip 1;", 1);
            check.read(TWO + "pair ^" + word + " a;", 1);
            check.read(TWO + "quarrel a ^" + word + ";", 1);
            check.read("man " + word + "x plain tall 1 neck 1;", 0);
            check.read("fruit x" + word + " size 1 slip 1;", 0);
        }
        check.read("man step plain tall 1 neck 1; fruit pace size 1 slip 1;", 0);
        for (String other : new String[] {"7", ";", "(", "", "Bob"}) check.read("man ^" + other, 1);
    }

    private static void alike(Check check) {
        check.read("man x plain tall 1 neck 1; man ^x plain tall 2 neck 2;", 3);
        check.read("man x plain tall 1 neck 1; woman ^x plain tall 2 neck 2;", 3);
        check.read("man x plain tall 1 neck 1; fruit ^x size 1 slip 1;", 3);
        check.read("fruit x size 1 slip 1; fruit ^x size 1 slip 1;", 3);
        check.read("fruit x size 1 slip 1; woman ^x plain tall 1 neck 1;", 3);
        check.read("fruit x size 1 slip 1; woman xx plain tall 1 neck 1;", 0);
        check.read(people(6) + fruits(4) + "man ^f plain tall 1 neck 1;", 3);
        check.read(people(6) + fruits(4) + "man ^s plain tall 1 neck 1;", 3);
        ChinRow row = check.told("man x plain tall 1 neck 1; fruit y size 1 slip 1;");
        check.read(row, "man y plain tall 1 neck 1; fruit x size 1 slip 1;", 0); // another party's names are free again
    }

    private static void fromTheLeft(Check check) {
        law(check, "1 or 1 and 0", 0);
        law(check, "1 or (1 and 0)", 1);
        law(check, "0 and 0 or 1", 1);
        law(check, "0 and (0 or 1)", 0);
        law(check, "1 and 1 and 0 or 0 or 1", 1);
        law(check, "1 < 2 or 0 and 2 < 1", 0);
        check.read("time 1 and ^;", 1);
        check.read("time ^and 1;", 1);
        check.read("time 1 or ^or 1;", 1);
    }

    private static void tests(Check check) {
        law(check, "2 < 2", 0);
        law(check, "1 < 2", 1);
        law(check, "3 < 2", 0);
        law(check, "2 = 2", 1);
        law(check, "1 = 2", 0);
        law(check, "1 + 1 = 2 * 1", 1);
        law(check, "7", 7);
        check.read("time 1 < 2 ^< 3;", 1);
        check.read("time 1 = 1 ^= 1;", 1);
        check.read("time 1 < 2 ^= 3;", 1);
        check.read("time 1 = 2 + 3 * 4 ^< 3;", 1);
        check.read("time (1 < 2) < (3 = 4) and 5 < 6 or 7 = 8;", 0);
        check.read("time 1 < ^< 2;", 1);
        check.read("time 1 < ^;", 1);
        check.read("time ^= 1;", 1);
    }

    private static void sums(Check check) {
        law(check, "9 - 3 - 2", 4);
        law(check, "9 - (3 - 2)", 8);
        law(check, "2 + 3 * 4 - 5", 9);
        law(check, "2 * 3 * 4", 24);
        law(check, "3 - 2 * 2 + 1 < 1", 1);
        check.read("time ^+ 1;", 1);
        check.read("time ^- 1;", 1);
        check.read("time 1 * ^* 1;", 1);
        check.read("time 1 + ^- 1;", 1);
        check.read("time 1 +^", 1);
    }

    private static void parts(Check check) {
        check.read("time ^;", 1);
        check.read("time (^);", 1);
        check.read("time (1^;", 1);
        check.read("time 1^);", 1);
        check.read("time (1)^);", 1);
        check.read("time not ^;", 1);
        check.read("time not ^and 1;", 1);
        check.read("time 1 ^not 1;", 1);
        check.read("time 1 ^1;", 1);
        check.read("time (1)^(1);", 1);
        check.read("time ^x;", 1);
        check.read("time ^tall;", 1);
        law(check, "not 1 + 1", 1); // not takes the PART alone
        law(check, "not 0 * 7", 7);
        law(check, "not (0 * 7)", 1);
        law(check, "(((7)))", 7);
    }

    private static void within(Check check) {
        check.read("time not not not not 1;", 0);
        check.read("time not not not not not ^1;", 5);
        check.read("time ((((1))));", 0);
        check.read("time (((((^1)))));", 5);
        check.read("time not (not (1));", 0);
        check.read("time not (not (not ^1));", 5);
        check.read("time ((((1) + not (^1))));", 5);
        check.read("time ((((1) + not 1)));", 0);
    }

    private static void step(Check check) {
        String law = "neck 0; time 50 + step; hold step; laugh step; ";
        ChinRow row = check.told("man a plain tall 3 neck 0; man b plain tall 10 " + law);
        check.due("up", row.seconds(0, 1, 0), 57);
        check.due("down", row.seconds(1, 0, 0), 57);
        check.due("in hold, up", row.chance(0, 1, 0), 7);
        check.due("in hold, down", row.chance(1, 0, 0), 7);
        row = check.told("man a plain tall 10 neck 0; man b plain tall 10 " + law);
        check.due("none", row.seconds(0, 1, 0), 50);
        check.due("none in hold", row.chance(0, 1, 0), 0);
        check.due("none in laugh", row.laughs(0), 1);
        row = check.told("man a plain tall 99 neck 0; man b plain tall 0 neck 0; time step; laugh step = 99;");
        check.due("the most", row.seconds(0, 1, 0), 99);
        check.due("the most, up", row.seconds(1, 0, 0), 99);
        check.due("the most in laugh", row.laughs(1), 3);
    }

    private static void takersNeck(Check check) {
        ChinRow row = check.told("man a plain tall 3 neck 0; man b plain tall 3 neck 9; hold neck; time 50 + neck;");
        check.due("9 takes", row.chance(0, 1, 0), 9);
        check.due("0 takes", row.chance(1, 0, 0), 0);
        check.due("seconds, 9 takes", row.seconds(0, 1, 0), 59);
        check.due("seconds, 0 takes", row.seconds(1, 0, 0), 50);
    }

    private static void inLaugh(Check check) {
        for (String fact : new String[] {"size", "slip", "pace", "tall", "laugh"}) {
            check.read("laugh ^" + fact + ";", 1);
            check.read("laugh step + (neck < not ^" + fact + ");", 1);
        }
        check.read("laugh step + neck;", 0);
        check.read("hold step + neck + size + slip + pace;", 0);
        check.read("time step + neck + size + slip + pace;", 0);
    }

    private static void seersNeck(Check check) {
        ChinRow row = check.told("man a plain tall 3 neck 0; man b plain tall 3 neck 9; man c plain tall 3 neck 0; laugh neck;");
        check.due("b sees a", row.laughs(0), 3);
        check.due("a and c see b", row.laughs(1), 2);
        check.due("b sees c", row.laughs(2), 6);
    }

    private static void oneOrNought(Check check) {
        law(check, "not 0", 1);
        law(check, "not 7", 0);
        law(check, "not not 7", 1);
        law(check, "7 and 9", 1);
        law(check, "8 and 7", 1); // they have no bit in common
        law(check, "7 and 0", 0);
        law(check, "0 and 7", 0);
        law(check, "7 or 9", 1);
        law(check, "0 or 9", 1);
        law(check, "9 or 0", 1);
        law(check, "0 or 0", 0);
        law(check, "(3 < 9) + (3 = 3)", 2);
    }

    private static void notNought(Check check) {
        law(check, "not (0 - 1)", 0);
        law(check, "(0 - 1) and (0 - 9)", 1);
        law(check, "(0 - 1) or 0", 1);
        law(check, "0 - 1 and 1", 1);
        ChinRow row = check.told(TWO + "laugh 0 - 1;");
        check.due("laughs by less than 0", row.laughs(0), 3);
        check.due("laughs by 2", check.told(TWO + "laugh 2;").laughs(0), 3);
        check.due("laughs by 0", check.told(TWO + "laugh 0;").laughs(0), 1);
        law(check, "not (8192 * 8192 * 64)", 1); // 4294967296 wraps to 0
    }

    private static void wrap(Check check) {
        law(check, "9999 * 9999 * 21 < 0", 0); // 2099580021
        law(check, "9999 * 9999 * 22 < 0", 1); // 2199560022
        law(check, "9999 * 9999 * 21 + 9999 * 9999 < 0", 1);
        law(check, "0 < 0 - 9999 * 9999 * 21 - 9999 * 9999", 1);
        law(check, "8192 * 8192 * 32 < 0", 1); // 2147483648
        law(check, "0 < 8192 * 8192 * 32 - 1", 1);
        law(check, "8192 * 8192 * 32 + 8192 * 8192 * 32", 0);
        law(check, "0 - 8192 * 8192 * 32 < 0", 1); // the least int is its own opposite
        check.due("hold that wraps below", check.told(TWO + "hold 8192 * 8192 * 32;").chance(0, 1, 0), 0);
        check.due("hold that wraps above", check.told(TWO + "hold 8192 * 8192 * 32 - 1;").chance(0, 1, 0), 10);
        check.due("time that wraps below", seconds(check, "8192 * 8192 * 32"), 1);
        check.due("time that wraps above", seconds(check, "8192 * 8192 * 32 - 1"), 99);
    }

    private static void withoutLaw(Check check, boolean hold) {
        ChinRow row = check.told(TWO);
        ChinRow other = check.told(TWO + "hold 1; time 1;");
        check.read(other, TWO, 0);
        for (int pace = 0; pace < 4; pace++) {
            int due = hold ? 8 - pace : 9 - pace * 2;
            check.due("pace " + pace, hold ? row.chance(0, 1, pace) : row.seconds(0, 1, pace), due);
            check.due("behind another party", hold ? other.chance(0, 1, pace) : other.seconds(0, 1, pace), due);
        }
    }

    private static void place(Check check) {
        check.read("^boy", 1);
        check.read(" ^boy", 1);
        check.read("\n\n^boy", 1);
        check.read(" ".repeat(999) + "^;", 1);
        check.read(" ".repeat(990) + "pick ^1000;", 4);
    }

    private static void theEnd(Check check) {
        check.read("turns^", 1);
        check.read("turns   ^", 1);
        check.read("turns\n \n^", 1);
        check.read("man^", 1);
        check.read("time (1 + 2^", 1);
        check.read(" ".repeat(995) + "turns^", 1);
        check.read(" ".repeat(900) + "turns" + " ".repeat(95) + "^", 1);
        check.read("turns;   ", 0);
    }

    private static void firstAndLeast(Check check) {
        check.read("pick ^100 boy", 4);
        check.read("turns; ^turns boy", 3);
        check.read("pair ^x 5", 2);
        check.read("time not not not not not ^1 boy", 5);
        check.read("time not not not not not ^tall", 1); // neither may it stand there, nor within five others
        check.read("laugh not not not not not ^pace;", 1);
        check.read("laugh ((((( ^12345", 1);
        check.read("laugh ((((( ^)", 1);
        check.read("pick ^x; pick 100;", 1);
        check.read(TWO + "pair ^man man", 1);
    }

    private static void cantStand(Check check) {
        for (String word : RESERVED) check.read("turns ^" + word, 1);
        for (String word : new String[] {"tall", "neck", "size", "slip", "front", "there", "plain", "cold", "not", "and", "or", "step"}) {
            check.read("^" + word + ";", 1);
        }
        check.read("^1;", 1);
        check.read("^(turns);", 1);
        check.read("man a ^tall 1 neck 1;", 1);
        check.read("man a plain ^neck 1;", 1);
        check.read("man a plain tall 1 ^;", 1);
        check.read("man a plain tall 1 neck 1 ^man", 1);
        check.read("fruit a ^slip 1;", 1);
        check.read("fruit a size 1 ^;", 1);
        check.read("fruit a ^plain size 1 slip 1;", 1);
        check.read("fall front ^there;", 1);
        check.read("turns ^1;", 1);
        check.read(TWO + "pair a b ^a;", 1);
    }

    private static void notTold(Check check) {
        check.read("pair ^x y;", 2);
        check.read("quarrel ^x y;", 2);
        check.read(TWO + "pair a ^x;", 2);
        check.read(TWO + "quarrel ^x a;", 2);
        check.read(TWO + fruits(1) + "pair ^p a;", 2);
        check.read(TWO + fruits(1) + "quarrel a ^p;", 2);
        check.read(TWO + "pair a ^aa;", 2);
        ChinRow row = check.told(TWO);
        check.read(row, "pair ^a b;", 2); // they are another party's
    }

    private static void toldAlready(Check check) {
        for (String word : new String[] {"man", "woman"}) {
            check.read(TWO + word + " ^a plain tall 1 neck 1;", 3);
            check.read(TWO + word + " ^b plain tall 1 neck 1;", 3);
            check.read(fruits(4) + word + " ^s plain tall 1 neck 1;", 3);
        }
        check.read(TWO + "fruit ^b size 1 slip 1;", 3);
        check.read(fruits(3) + "fruit ^p size 1 slip 1;", 3);
        check.read(people(7) + "^man a plain", 5); // the word comes first
        check.read("man a plain tall 1 ^; man a", 1);
    }

    private static void toldSo(Check check) {
        for (String first : new String[] {"pair", "quarrel"}) {
            for (String second : new String[] {"pair", "quarrel"}) {
                check.read(TWO + first + " a b; " + second + " a ^b;", 3);
                check.read(TWO + first + " a b; " + second + " b ^a;", 3);
                check.read(TWO + "man c plain tall 1 neck 1; " + first + " a b; " + second + " a c; " + second + " c b;", 0);
            }
        }
    }

    private static void secondTime(Check check) {
        for (String word : new String[] {"fall", "hold", "time", "laugh", "pick", "turns"}) {
            String first = word + (word.equals("fall") ? " there" : word.equals("turns") ? "" : " 0");
            check.read(first + "; ^" + word, 3);
            check.read(first + "; ^" + word + " boy", 3);
            check.read(first + "; " + TWO + " ^" + first + ";", 3);
            ChinRow row = check.told(first + ";");
            check.read(row, first + ";", 0); // it is another party
        }
    }

    private static void notAsTold(Check check) {
        check.read("man a plain tall ^100", 4);
        check.read("man a plain tall 99 neck ^10", 4);
        check.read("fruit a size ^10", 4);
        check.read("fruit a size 9 slip ^10", 4);
        check.read("pick ^100", 4);
        check.read("pick ^9999", 4);
        check.read("pick ^10000", 1);
        check.read("time 9999;", 0); // in an E any NUMBER may stand
    }

    private static void eighth(Check check) {
        for (String word : new String[] {"man", "woman"}) {
            check.read(people(6) + word + " z plain tall 1 neck 1;", 0);
            check.read(people(7) + "^" + word, 5);
            check.read(people(7) + "^" + word + " z plain tall 1 neck 1;", 5);
            check.read(people(7) + "^" + word + " boy girl", 5);
        }
        check.read(people(7) + "^manx", 1);
    }

    private static void fifth(Check check) {
        check.read(fruits(3) + "fruit z size 1 slip 1;", 0);
        check.read(fruits(4) + "^fruit", 5);
        check.read(fruits(4) + "^fruit z size 1 slip 1;", 5);
        check.read(fruits(4) + people(7) + "^fruit 1", 5);
    }

    // A law that is broken off must leave nothing behind for those that are read later.
    private static void lawsBrokenOff(Check check) {
        ChinRow row = new ChinRow();
        for (int i = 0; i < 20; i++) {
            check.read(row, "time not not not not not ^1", 5);
            check.read(row, "time 1 + (2 * (3 < not (^boy", 1);
            check.read(row, "time 1 or 2 < 3 + 4 * not^", 1);
            check.read(row, TWO + "time ((((7)))) + not not not not 3;", 0);
            check.due("seconds", row.seconds(0, 1, 0), 8);
        }
    }

    private static void withinOthers(Check check) {
        lawsBrokenOff(check);
        for (String part : new String[] {"1", "step", "neck", "not", "(", "9999"}) {
            check.read("laugh not not not not not ^" + part, 5);
            check.read("laugh (((((^" + part, 5);
            check.read("laugh not (not (not ^" + part, 5);
            check.read("laugh 1 + (2 * (3 < (4 - (5 = (^" + part, 5);
        }
        for (String part : new String[] {"size", "slip", "pace"}) check.read("hold (((((^" + part, 5);
        check.read("laugh not not not not 1;", 0);
        check.read("laugh (((not 1)));", 0);
        check.read("laugh ((((1)))) + ((((2)))) * not not not not 3;", 0); // those behind one another aren't within
        check.read("laugh ((((1) + 2))) + (((((^3", 5);
        check.read("laugh not not not not 1 + (not not not (^not 3", 5);
    }

    private static void fromThenOn(Check check) {
        ChinRow row = check.told(people(7) + fruits(4) + "pair a b; quarrel a c; hold 1; time 2; laugh 0; pick 5; fall front; turns;");
        check.read(row, "woman x cold tall 5 neck 5; man y cold tall 8 neck 6;", 0);
        int[] counts = {2, 0, 2, -1, 0, 3, 0, 0, 0, 0, 0};
        for (int i = 0; i < counts.length; i++) check.due("count(" + i + ")", row.count(i), counts[i]);
        check.due("person", row.person(1, 2), 8);
        check.due("person 2", row.person(2, 2), -1);
        check.due("chance", row.chance(0, 1, 0), 7);
        check.due("seconds", row.seconds(0, 1, 0), 9);
        check.due("laughs", row.laughs(0), 3);
        check.due("orders", row.orders(), 2);
        check.due("even", row.even(0), 3);
        // Nothing of any party before comes back, were it taken or not.
        String full = people(3) + fruits(2) + "pair a b; quarrel a c; hold 1; time 2; laugh 0; pick 5; fall front; turns;";
        for (String before : new String[] {full, full + "^boy", full, full, "hold 1 + not ^boy"}) {
            check.read(row, before, before.indexOf('^') < 0 ? 0 : 1);
            check.read(row, people(3), 0);
            counts = new int[] {3, 0, 3, -1, 0, 3, 0, 0, 0, 0, 0};
            for (int i = 0; i < counts.length; i++) check.due("count(" + i + ")", row.count(i), counts[i]);
            check.due("chance", row.chance(0, 1, 0), 8);
            check.due("seconds", row.seconds(0, 1, 0), 9);
            check.due("laughs", row.laughs(0), 7);
            check.due("orders", row.orders(), 6);
            check.due("even", row.even(1), 3);
            check.due("best", row.best(), -1);
        }
    }

    private static void anew(Check check) {
        String text = people(4) + fruits(2);
        ChinRow row = check.told(text);
        row.change(0, 3);
        row.fruit(1);
        row.pace(3);
        row.out(1, true);
        for (int i = 0; i < 4; i++) row.mark(i, false);
        check.read(row, text, 0);
        check.dueRow("the same party anew", row, "0123");
        check.due("fruit", row.count(3), 0);
        check.due("pace", row.count(4), 0);
        check.due("in the row", row.count(2), 4);
        for (int i = 0; i < 4; i++) check.due("mark " + i, row.mark(i, true), false);
        check.due("can be undone", row.count(9), 0);
        check.due("undo", row.undo(), false);
        check.dueRow("what was refused", row, "0123");
    }

    private static void readAsParty(Check check) {
        ChinRow row = new ChinRow();
        check.due("party of an empty tape", row.party(), 0);
        check.read(row, TWO, 0);
        check.read(row, TWO + "^boy", 1);
        check.read(row, "pick ^100", 4);
        check.due("party of an empty tape", row.party(), 0);
        check.due("nobody is there", row.count(0), 0);
    }

    private static void allStays(Check check) {
        for (String wrong : new String[] {"^boy", "woman x cold tall 9 neck 9; fruit y size 1 slip 1; hold 1; time 1; laugh 0; pick 50; fall front; turns; ^,"}) {
            ChinRow row = check.told(people(4) + fruits(2) + "pair a b; quarrel c d; hold 6; time 7; laugh 1; pick 8;");
            row.change(0, 3);
            row.fruit(1);
            row.pace(2);
            row.mark(2, false);
            row.out(1, true);
            row.orders();
            check.read(row, wrong, 1);
            int[] counts = {4, 2, 3, 1, 2, 8, 0, 1, 1, 4, 0};
            for (int i = 0; i < counts.length; i++) check.due("count(" + i + ")", row.count(i), counts[i]);
            check.dueRow("a fault", row, "320");
            check.due("tall", row.person(1, 2), 11);
            check.due("chance", row.chance(0, 1, 0), 6);
            check.due("seconds", row.seconds(0, 1, 0), 7);
            check.due("laughs", row.laughs(2), 13);
            check.due("orders", row.orders(), 2);
            check.due("undo", row.undo(), true);
            check.dueRow("undo", row, "3120");
            check.due("mark", row.mark(2, true), true);
            check.due("no mark", row.mark(1, true), false);
        }
    }
}
