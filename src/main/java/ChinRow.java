import java.util.Arrays;

/** A row of people who hand a fruit on from chin to chin; the document's numbered promises say what each call answers. */
public final class ChinRow {
    public static final int NONE = -1;

    private static final int MOST_SIGNS = 1000;
    private static final int MOST_PEOPLE = 7;
    private static final int MOST_FRUITS = 4;
    private static final int MOST_NESTED = 5;
    private static final int MOST_UNDONE = 20;
    private static final int MOST_MARKS = 4;
    private static final int MOST_TRIES = 200;
    private static final int MOST_BOUGHT = 20;
    private static final int MOST_THEIRS = 9;
    private static final int MOST_SEEN = 8;
    private static final int SEEDS = 10000;
    private static final int PACES = 4;
    private static final int TEN = 10;
    private static final int MILLION = 1000000;

    // Tokens: the words by their number in KEYWORDS, the signs by their own codes, which all lie above WRONG.
    private static final int MAN = 0;
    private static final int WOMAN = 1;
    private static final int TALL = 2;
    private static final int NECK = 3;
    private static final int FRUIT = 4;
    private static final int SIZE = 5;
    private static final int SLIP = 6;
    private static final int HOLD = 7;
    private static final int TIME = 8;
    private static final int LAUGH = 9;
    private static final int PAIR = 10;
    private static final int QUARREL = 11;
    private static final int FALL = 12;
    private static final int FRONT = 13;
    private static final int THERE = 14;
    private static final int PICK = 15;
    private static final int TURNS = 16;
    private static final int FIRST_KIND = 17;
    private static final int LAST_KIND = 22;
    private static final int NOT = 23;
    private static final int AND = 24;
    private static final int OR = 25;
    private static final int STEP = 26;
    private static final int PACE = 27;
    private static final int OTHER_WORD = 28;
    private static final int NUMBER = 29;
    private static final int END = 30;
    private static final int WRONG = 31;

    // The letters' codes, eight bits each; step and pace come last, for they alone may be NAMES too.
    private static final long[] KEYWORDS = {
        0x6d616eL, 0x776f6d616eL, 0x74616c6cL, 0x6e65636bL, // man, woman, tall, neck
        0x6672756974L, 0x73697a65L, 0x736c6970L, 0x686f6c64L, // fruit, size, slip, hold
        0x74696d65L, 0x6c61756768L, 0x70616972L, 0x7175617272656cL, // time, laugh, pair, quarrel
        0x66616c6cL, 0x66726f6e74L, 0x7468657265L, 0x7069636bL, // fall, front, there, pick
        0x7475726e73L, 0x706c61696eL, 0x6265617264L, 0x706561726c73L, // turns, plain, beard, pearls
        0x736879L, 0x73746f6f7073L, 0x636f6c64L, 0x6e6f74L, // shy, stoops, cold, not
        0x616e64L, 0x6f72L, 0x73746570L, 0x70616365L // and, or, step, pace
    };

    private static final int BEARD = 1;
    private static final int PEARLS = 2;
    private static final int SHY = 3;
    private static final int STOOPS = 4;
    private static final int COLD = 5;

    private static final int MISPLACED = 1;
    private static final int UNKNOWN = 2;
    private static final int AGAIN = 3;
    private static final int OUT_OF_BOUNDS = 4;
    private static final int TOO_MANY = 5;

    private final Tape tape = new Tape();
    private final Reader reader = new Reader();
    private Party party = new Party();
    private Party draft = new Party();
    private final Stand stand = new Stand();
    private final Past past = new Past();
    private final Stand[] marks = new Stand[MOST_MARKS];
    private int markedBits = 0;
    private final int[] line = new int[MOST_PEOPLE];
    private int lineLength = 0;
    private final Orders orders = new Orders();
    private final Fraction share = new Fraction();
    private final Fraction least = new Fraction();
    private final int[] passChances = new int[MOST_PEOPLE];
    private final int[] passSeconds = new int[MOST_PEOPLE];
    private final int[] rowsHere = new int[MOST_PEOPLE];
    private final int[] rowsSpoilt = new int[MOST_PEOPLE];
    private final int[] wins = new int[MOST_PEOPLE * (MOST_THEIRS + 1)];
    private final int[] shorter = new int[MOST_PEOPLE];

    public ChinRow() {
        for (int i = 0; i < MOST_MARKS; i++) {
            marks[i] = new Stand();
        }
    }

    public int feed(long a, long b, long c) {
        tape.addBytes(a);
        tape.addBytes(b);
        tape.addBytes(c);
        return tape.length;
    }

    public int party() {
        int fault = reader.readParty(tape, draft);
        tape.length = 0;
        if (fault != 0) {
            return fault;
        }
        Party old = party;
        party = draft;
        draft = old;
        stand.begin(party.fruits > 0 ? 0 : NONE);
        past.forget();
        markedBits = 0;
        settle();
        return 0;
    }

    public int person(int person, int what) {
        if (!isPerson(person)) {
            return NONE;
        }
        switch (what) {
            case 0: return party.kinds[person];
            case 1: return party.women[person] ? 1 : 0;
            case 2: return party.talls[person];
            case 3: return party.necks[person];
            case 4: return placeOf(person);
            default: return NONE;
        }
    }

    public int row(int place) {
        return place >= 0 && place < lineLength ? line[place] : NONE;
    }

    public boolean change(int one, int other) {
        if (one == other || placeOf(one) == NONE || placeOf(other) == NONE) {
            return false;
        }
        past.keep(stand);
        stand.swap(one, other);
        settle();
        return true;
    }

    public boolean out(int person, boolean out) {
        if (!isPerson(person) || stand.isOut(person) == out) {
            return false;
        }
        past.keep(stand);
        stand.outBits ^= 1 << person;
        settle();
        return true;
    }

    public boolean fruit(int fruit) {
        if (fruit < 0 || fruit >= party.fruits || fruit == stand.fruit) {
            return false;
        }
        past.keep(stand);
        stand.fruit = fruit;
        settle();
        return true;
    }

    public boolean pace(int pace) {
        if (!isPace(pace) || pace == stand.pace) {
            return false;
        }
        past.keep(stand);
        stand.pace = pace;
        settle();
        return true;
    }

    public boolean undo() {
        if (!past.giveBack(stand)) {
            return false;
        }
        settle();
        return true;
    }

    public int chance(int from, int to, int pace) {
        if (!isPass(from, to) || !isPace(pace)) {
            return NONE;
        }
        return party.chanceOf(from, to, stand.fruit, pace);
    }

    public int seconds(int from, int to, int pace) {
        if (!isPass(from, to) || !isPace(pace)) {
            return NONE;
        }
        return party.secondsOf(from, to, stand.fruit, pace);
    }

    public long mean(int what) {
        return meanWith(stand.fruit) ? share.part(what) : NONE;
    }

    public long falls(int i, int what) {
        int passes = passes();
        if (i < NONE || i >= passes) {
            return NONE;
        }
        share.set(1, 1);
        int held = i == NONE ? passes : i;
        for (int k = 0; k < held; k++) {
            share.multiply(chanceAt(k, stand.pace), TEN);
        }
        if (i != NONE) {
            share.multiply(TEN - chanceAt(i, stand.pace), TEN);
        }
        share.reduce();
        return share.part(what);
    }

    public long least(int what) {
        orders.find(party, stand, line, lineLength);
        if (!orders.hasLeast) {
            return NONE;
        }
        if (what < 2) {
            return orders.least.part(what);
        }
        return orders.whoAt(what - 2, lineLength);
    }

    public int orders() {
        orders.find(party, stand, line, lineLength);
        return orders.total;
    }

    public int best() {
        int best = NONE;
        for (int i = 0; i < party.fruits; i++) {
            if (meanWith(i) && (best == NONE || share.compareWith(least.above, least.below) < 0)) {
                best = i;
                least.set(share.above, share.below);
            }
        }
        return best;
    }

    public int bought(int fruits) {
        if (fruits < 1 || fruits > MOST_BOUGHT) {
            return NONE;
        }
        int passes = passes();
        if (passes == 0) {
            return MILLION;
        }
        readPassChances(passes);
        Arrays.fill(rowsHere, 0);
        rowsHere[0] = MILLION;
        int through = 0;
        for (int spoilt = 0; spoilt < fruits; spoilt++) {
            through += tryAll(passes);
            System.arraycopy(rowsSpoilt, 0, rowsHere, 0, MOST_PEOPLE);
        }
        return through;
    }

    public int hurry(int ours, int theirs, int chance, boolean pace) {
        if (ours < 1 || ours > passes() || theirs < 1 || theirs > MOST_THEIRS || chance < 1 || chance > TEN) {
            return NONE;
        }
        int answer = NONE;
        for (int left = 0; left <= ours; left++) {
            readPaceChances(left);
            for (int other = 0; other <= theirs; other++) {
                answer = hurryAt(left, other, chance);
            }
        }
        return pace ? answer : wins[ours * (MOST_THEIRS + 1) + theirs];
    }

    public int laughs(int person) {
        int place = placeOf(person);
        return place == NONE ? NONE : party.laughing(line, lineLength, place);
    }

    public int outer(int person) {
        int begins = placeOf(person);
        if (begins == NONE) {
            return NONE;
        }
        int outer = NONE;
        int fewest = MOST_PEOPLE + 1;
        for (int i = 0; i < lineLength; i++) {
            int laughing = i == begins ? fewest : laughingWithout(i, begins);
            if (laughing < fewest) {
                fewest = laughing;
                outer = line[i];
            }
        }
        return outer;
    }

    public int even(int what) {
        int set = what == 0 || what == 1 ? evenSet() : NONE;
        if (set == NONE) {
            return NONE;
        }
        return what == 0 ? party.difference(set) : set;
    }

    public long let(int held, int fell, int one, int other, int what) {
        boolean seen = held >= 0 && held <= MOST_SEEN && fell >= 0 && fell <= MOST_SEEN - held;
        if (!seen || one < 1 || one >= TEN || other < 1 || other >= TEN) {
            return NONE;
        }
        long lets = power(other, held) * power(TEN - other, fell);
        long plays = power(one, held) * power(TEN - one, fell);
        share.set(lets, lets + plays);
        share.reduce();
        return share.part(what);
    }

    public int evening(int seed, int what) {
        if (seed < 0 || seed >= SEEDS || what < 0 || what > 3 || lineLength == 0) {
            return NONE;
        }
        int passes = passes();
        readPassChances(passes);
        readPassSeconds(passes);
        long g = seed;
        int at = 0;
        int tries = 0;
        int falls = 0;
        int time = 0;
        while (at < passes && tries < MOST_TRIES) {
            g = (g * 1103515245L + 12345L) % 2147483648L;
            tries++;
            time += passSeconds[at];
            if (g / 65536L % TEN < passChances[at]) {
                at++;
            } else {
                falls++;
                time += party.pick;
                at = party.front ? 0 : at;
            }
        }
        switch (what) {
            case 0: return time;
            case 1: return tries;
            case 2: return falls;
            default: return line[at];
        }
    }

    public boolean mark(int mark, boolean back) {
        if (mark < 0 || mark >= MOST_MARKS) {
            return false;
        }
        if (!back) {
            marks[mark].take(stand);
            markedBits |= 1 << mark;
            return true;
        }
        if ((markedBits >> mark & 1) == 0) {
            return false;
        }
        stand.take(marks[mark]);
        past.forget();
        settle();
        return true;
    }

    public int count(int what) {
        switch (what) {
            case 0: return party.people;
            case 1: return party.fruits;
            case 2: return lineLength;
            case 3: return stand.fruit;
            case 4: return stand.pace;
            case 5: return party.pick;
            case 6: return party.front ? 1 : 0;
            case 7: return party.pairs;
            case 8: return party.quarrels;
            case 9: return past.size;
            case 10: return tape.length;
            default: return NONE;
        }
    }

    // Every change of the PARTY or of how it stands must end here: the line and what is found from it hang on both.
    private void settle() {
        lineLength = 0;
        for (int i = 0; i < party.people; i++) {
            if (!stand.isOut(stand.order[i])) {
                line[lineLength] = stand.order[i];
                lineLength++;
            }
        }
        orders.known = false;
    }

    private boolean isPerson(int person) {
        return person >= 0 && person < party.people;
    }

    private boolean isPass(int from, int to) {
        return isPerson(from) && isPerson(to) && from != to;
    }

    private static boolean isPace(int pace) {
        return pace >= 0 && pace < PACES;
    }

    private int placeOf(int person) {
        for (int i = 0; i < lineLength; i++) {
            if (line[i] == person) {
                return i;
            }
        }
        return NONE;
    }

    private int passes() {
        return lineLength > 0 ? lineLength - 1 : 0;
    }

    private int chanceAt(int pass, int pace) {
        return party.chanceOf(line[pass], line[pass + 1], stand.fruit, pace);
    }

    private void readPassChances(int passes) {
        for (int i = 0; i < passes; i++) {
            passChances[i] = chanceAt(i, stand.pace);
        }
    }

    private void readPassSeconds(int passes) {
        for (int i = 0; i < passes; i++) {
            passSeconds[i] = party.secondsOf(line[i], line[i + 1], stand.fruit, stand.pace);
        }
    }

    private boolean meanWith(int fruit) {
        share.set(0, 1);
        for (int i = 0; i < passes(); i++) {
            int chance = party.chanceOf(line[i], line[i + 1], fruit, stand.pace);
            if (chance <= 0) {
                return false;
            }
            int seconds = party.secondsOf(line[i], line[i + 1], fruit, stand.pace);
            share.addPass(chance, party.costOf(chance, seconds), party.front);
        }
        share.reduce();
        return true;
    }

    // Tries every PASS once, from the first on, for the rows that have spoilt as many; answers how many get through.
    private int tryAll(int passes) {
        int arriving = 0;
        Arrays.fill(rowsSpoilt, 0);
        for (int i = 0; i < passes; i++) {
            int trying = rowsHere[i] + arriving;
            arriving = trying * passChances[i] / TEN;
            rowsSpoilt[party.front ? 0 : i] += trying - arriving;
        }
        return arriving;
    }

    // The chances of our PASS by pace lie in passChances while a game against another row is worked out.
    private void readPaceChances(int left) {
        if (left < 1 || left > passes()) {
            return;
        }
        for (int pace = 0; pace < PACES; pace++) {
            passChances[pace] = chanceAt(passes() - left, pace);
        }
    }

    // Notes the chance to win from here on, and answers the pace that gives it.
    private int hurryAt(int left, int other, int chance) {
        int here = left * (MOST_THEIRS + 1) + other;
        if (left == 0 || other == 0) {
            wins[here] = left > 0 ? 0 : other > 0 ? MILLION : MILLION / 2;
            return NONE;
        }
        int ourHold = here - (MOST_THEIRS + 1);
        int bestPace = NONE;
        wins[here] = NONE;
        for (int pace = 0; pace < PACES; pace++) {
            int ours = passChances[pace];
            int won = ours * chance * wins[ourHold - 1]
                + ours * (TEN - chance) * wins[ourHold]
                + (TEN - ours) * chance * wins[here - 1];
            int either = TEN * TEN - (TEN - ours) * (TEN - chance);
            int win = either > 0 ? won / either : 0;
            if (win > wins[here]) {
                wins[here] = win;
                bestPace = pace;
            }
        }
        return bestPace;
    }

    private int laughingWithout(int gone, int begins) {
        int length = 0;
        for (int i = 0; i < lineLength; i++) {
            if (i != gone) {
                shorter[length] = line[i];
                length++;
            }
        }
        int place = begins > gone ? begins - 1 : begins;
        return Integer.bitCount(party.laughing(shorter, length, place));
    }

    private int evenSet() {
        int best = NONE;
        int leastDifference = 0;
        for (int set = 1; set < 1 << party.people; set += 2) {
            if (party.mayTeam(set)) {
                int difference = party.difference(set);
                if (best == NONE || difference < leastDifference) {
                    best = set;
                    leastDifference = difference;
                }
            }
        }
        return best;
    }

    private static long power(int base, int times) {
        long power = 1;
        for (int i = 0; i < times; i++) {
            power *= base;
        }
        return power;
    }

    private static int within(int value, int low, int high) {
        return Math.max(low, Math.min(high, value));
    }

    /** The signs that wait to be read. */
    private static final class Tape {
        final char[] signs = new char[MOST_SIGNS];
        int length = 0;

        void addBytes(long bytes) {
            for (int shift = 56; shift >= 0; shift -= 8) {
                addSign((int) (bytes >>> shift & 255L));
            }
        }

        private void addSign(int sign) {
            boolean told = sign == 10 || sign >= 32 && sign <= 126;
            if (told && length < MOST_SIGNS) {
                signs[length] = (char) sign;
                length++;
            }
        }
    }

    /** Cuts the tape into tokens, one at a time. */
    private static final class Lexer {
        private Tape tape = null;
        private int next = 0;
        int token = END;
        int place = 0;
        int number = 0;
        long name = 0;

        void start(Tape read) {
            tape = read;
            next = 0;
            advance();
        }

        void advance() {
            int sign = signAt(next);
            for (int i = 0; i < MOST_SIGNS && (sign == 10 || sign == 32); i++) {
                next++;
                sign = signAt(next);
            }
            place = next;
            if (isLetter(sign)) {
                takeWord();
            } else if (isDigit(sign)) {
                takeNumber();
            } else if (sign == NONE) {
                token = END;
            } else {
                next++;
                token = isMark(sign) ? sign : WRONG;
            }
        }

        private void takeWord() {
            name = 0;
            for (int i = 0; i < MOST_SIGNS && isLetter(signAt(next)); i++) {
                name = name << 8 | signAt(next);
                next++;
            }
            token = next - place > 8 ? WRONG : OTHER_WORD;
            for (int i = 0; i < KEYWORDS.length && token == OTHER_WORD; i++) {
                if (KEYWORDS[i] == name) {
                    token = i;
                }
            }
        }

        private void takeNumber() {
            number = 0;
            for (int i = 0; i < MOST_SIGNS && isDigit(signAt(next)); i++) {
                number = number * 10 + signAt(next) - '0';
                next++;
            }
            token = next - place > 4 ? WRONG : NUMBER;
        }

        private int signAt(int at) {
            return tape != null && at >= 0 && at < tape.length && at < MOST_SIGNS ? tape.signs[at] : NONE;
        }

        private static boolean isLetter(int sign) {
            return sign >= 'a' && sign <= 'z';
        }

        private static boolean isDigit(int sign) {
            return sign >= '0' && sign <= '9';
        }

        private static boolean isMark(int sign) {
            return sign == '(' || sign == ')' || sign == '<' || sign == '=' || sign == '+' || sign == '-'
                || sign == '*' || sign == ';';
        }
    }

    /** The told E's, each as a run of codes in which an operator stands behind what it joins. */
    private static final class Laws {
        // One token gives at most one code, so all laws of one tape find room here together.
        private final int[] codes = new int[MOST_SIGNS];
        private int length = 0;
        private final int[] begins = new int[3];
        private final int[] ends = new int[3];
        private final int[] values = new int[64];
        private int step = 0;
        private int neck = 0;
        private int size = 0;
        private int slip = 0;
        private int pace = 0;

        void clear() {
            length = 0;
            Arrays.fill(begins, 0);
            Arrays.fill(ends, 0);
        }

        void begin(int law) {
            begins[law - HOLD] = length;
        }

        void end(int law) {
            ends[law - HOLD] = length;
        }

        // A number is its own code; a fact or an operator is its token below 0.
        void add(int code) {
            if (length < MOST_SIGNS) {
                codes[length] = code;
                length++;
            }
        }

        void look(int lookedStep, int lookedNeck) {
            step = lookedStep;
            neck = lookedNeck;
        }

        void lookAtFruit(int lookedSize, int lookedSlip, int lookedPace) {
            size = lookedSize;
            slip = lookedSlip;
            pace = lookedPace;
        }

        int value(int law) {
            int from = begins[law - HOLD];
            int to = ends[law - HOLD];
            if (from == to) {
                return law == HOLD ? 8 - pace : law == TIME ? 9 - pace * 2 : 1;
            }
            int height = 0;
            for (int i = from; i < to && i < MOST_SIGNS; i++) {
                height = follow(codes[i], height);
            }
            return values[0];
        }

        private int follow(int code, int height) {
            if (code == -NOT) {
                if (height > 0) {
                    values[height - 1] = values[height - 1] == 0 ? 1 : 0;
                }
                return height;
            }
            if (code >= 0 || isFact(-code)) {
                if (height >= values.length) {
                    return height;
                }
                values[height] = code >= 0 ? code : fact(-code);
                return height + 1;
            }
            if (height < 2) {
                return height;
            }
            values[height - 2] = joined(-code, values[height - 2], values[height - 1]);
            return height - 1;
        }

        static boolean isFact(int token) {
            return token == STEP || token == NECK || token == SIZE || token == SLIP || token == PACE;
        }

        private int fact(int token) {
            switch (token) {
                case STEP: return step;
                case NECK: return neck;
                case SIZE: return size;
                case SLIP: return slip;
                default: return pace;
            }
        }

        private static int joined(int operator, int left, int right) {
            switch (operator) {
                case '+': return left + right;
                case '-': return left - right;
                case '*': return left * right;
                case '<': return left < right ? 1 : 0;
                case '=': return left == right ? 1 : 0;
                case AND: return left != 0 && right != 0 ? 1 : 0;
                default: return left != 0 || right != 0 ? 1 : 0;
            }
        }
    }

    /** Reads one E without recursion: what waits for its right side lies on a stack. */
    private static final class LawReader {
        private final int[] waiting = new int[64];
        private int height = 0;
        private int nested = 0;
        private boolean partDue = true;
        private Laws laws = null;

        // Answers the fault's kind (0: none); the lexer stands at the faulty token then, or at the E's semicolon.
        int readLaw(Lexer lexer, Laws into, int law) {
            laws = into;
            height = 0;
            nested = 0;
            partDue = true;
            laws.begin(law);
            for (int i = 0; i <= MOST_SIGNS; i++) {
                if (!partDue && nested == 0 && lexer.token == ';') {
                    joinDownTo(1);
                    laws.end(law);
                    return 0;
                }
                int kind = partDue ? readPart(lexer, law) : readOperator(lexer.token);
                if (kind != 0) {
                    return kind;
                }
                lexer.advance();
            }
            return MISPLACED;
        }

        private int readPart(Lexer lexer, int law) {
            int token = lexer.token;
            boolean opens = token == NOT || token == '(';
            if (!opens && token != NUMBER && !mayBeFact(token, law)) {
                return MISPLACED;
            }
            if (nested >= MOST_NESTED) {
                return TOO_MANY;
            }
            if (opens) {
                nested++;
                push(token);
            } else {
                laws.add(token == NUMBER ? lexer.number : -token);
                endPart();
            }
            return 0;
        }

        private static boolean mayBeFact(int token, int law) {
            return law == LAUGH ? token == STEP || token == NECK : Laws.isFact(token);
        }

        private int readOperator(int token) {
            if (token == ')' && nested > 0) {
                joinDownTo(1);
                height--;
                nested--;
                endPart();
                return 0;
            }
            int rank = rankOf(token);
            if (rank == 0) {
                return MISPLACED;
            }
            boolean compares = rank == rankOf('<');
            joinDownTo(compares ? rank + 1 : rank);
            if (compares && rankOf(top()) == rank) {
                return MISPLACED;
            }
            push(token);
            partDue = true;
            return 0;
        }

        // A not takes just the PART behind it, so it is done as soon as that one is.
        private void endPart() {
            for (int i = 0; i <= MOST_NESTED && top() == NOT; i++) {
                laws.add(-NOT);
                height--;
                nested--;
            }
            partDue = false;
        }

        private void joinDownTo(int rank) {
            for (int i = 0; i < waiting.length && rankOf(top()) >= rank; i++) {
                laws.add(-top());
                height--;
            }
        }

        private int top() {
            return height > 0 && height <= waiting.length ? waiting[height - 1] : END;
        }

        private void push(int token) {
            if (height < waiting.length) {
                waiting[height] = token;
                height++;
            }
        }

        private static int rankOf(int token) {
            switch (token) {
                case AND: case OR: return 1;
                case '<': case '=': return 2;
                case '+': case '-': return 3;
                case '*': return 4;
                default: return 0;
            }
        }
    }

    /** Reads a tape as a PARTY; once a fault is found, nothing more is taken. */
    private static final class Reader {
        private final Lexer lexer = new Lexer();
        private final LawReader lawReader = new LawReader();
        private final long[] peopleNames = new long[MOST_PEOPLE];
        private final long[] fruitNames = new long[MOST_FRUITS];
        private Party party = null;
        private int toldBits = 0;
        private int fault = 0;

        int readParty(Tape tape, Party into) {
            party = into;
            party.clear();
            toldBits = 0;
            fault = 0;
            lexer.start(tape);
            for (int i = 0; i <= MOST_SIGNS && fault == 0 && lexer.token != END; i++) {
                int word = lexer.token;
                switch (word) {
                    case MAN: case WOMAN: readPerson(word == WOMAN); break;
                    case FRUIT: readFruit(); break;
                    case PAIR: case QUARREL: readTwo(word == PAIR); break;
                    case HOLD: case TIME: case LAUGH: case FALL: case PICK: case TURNS: readOnce(word); break;
                    default: fail(MISPLACED); break;
                }
                take(';');
            }
            return fault;
        }

        private void readPerson(boolean woman) {
            if (party.people >= MOST_PEOPLE) {
                fail(TOO_MANY);
                return;
            }
            lexer.advance();
            long name = takeNewName();
            int kind = takeKind();
            take(TALL);
            int tall = takeNumber(99);
            take(NECK);
            int neck = takeNumber(9);
            if (fault == 0) {
                peopleNames[party.people] = name;
                party.addPerson(kind, woman, tall, neck);
            }
        }

        private void readFruit() {
            if (party.fruits >= MOST_FRUITS) {
                fail(TOO_MANY);
                return;
            }
            lexer.advance();
            long name = takeNewName();
            take(SIZE);
            int size = takeNumber(9);
            take(SLIP);
            int slip = takeNumber(9);
            if (fault == 0) {
                fruitNames[party.fruits] = name;
                party.addFruit(size, slip);
            }
        }

        private void readTwo(boolean pair) {
            lexer.advance();
            int one = findPerson();
            if (one == NONE) {
                return;
            }
            lexer.advance();
            int other = findPerson();
            if (other == NONE) {
                return;
            }
            if (one == other || party.areTold(one, other)) {
                fail(AGAIN);
                return;
            }
            lexer.advance();
            party.addTwo(one, other, pair);
        }

        private void readOnce(int word) {
            if ((toldBits >> word & 1) != 0) {
                fail(AGAIN);
                return;
            }
            toldBits |= 1 << word;
            lexer.advance();
            if (word == FALL) {
                party.front = lexer.token == FRONT;
                take(lexer.token == THERE ? THERE : FRONT);
            } else if (word == PICK) {
                party.pick = takeNumber(99);
            } else if (word == TURNS) {
                party.turns = true;
            } else {
                fail(lawReader.readLaw(lexer, party.laws, word));
            }
        }

        private void fail(int kind) {
            if (fault == 0 && kind != 0) {
                fault = kind + 16 * lexer.place;
            }
        }

        private void take(int token) {
            if (fault != 0) {
                return;
            }
            if (lexer.token == token) {
                lexer.advance();
            } else {
                fail(MISPLACED);
            }
        }

        private int takeNumber(int most) {
            if (fault != 0) {
                return 0;
            }
            int number = lexer.number;
            if (lexer.token != NUMBER) {
                fail(MISPLACED);
            } else if (number > most) {
                fail(OUT_OF_BOUNDS);
            } else {
                lexer.advance();
            }
            return number;
        }

        private int takeKind() {
            if (fault != 0) {
                return 0;
            }
            int kind = lexer.token - FIRST_KIND;
            if (lexer.token < FIRST_KIND || lexer.token > LAST_KIND) {
                fail(MISPLACED);
            } else {
                lexer.advance();
            }
            return kind;
        }

        private long takeNewName() {
            long name = lexer.name;
            if (!isName()) {
                fail(MISPLACED);
            } else if (find(peopleNames, party.people, name) != NONE || find(fruitNames, party.fruits, name) != NONE) {
                fail(AGAIN);
            } else {
                lexer.advance();
            }
            return name;
        }

        // Leaves the lexer at the NAME: the second one of two may yet be found faulty there.
        private int findPerson() {
            if (!isName()) {
                fail(MISPLACED);
                return NONE;
            }
            int person = find(peopleNames, party.people, lexer.name);
            if (person == NONE) {
                fail(UNKNOWN);
            }
            return person;
        }

        private boolean isName() {
            return lexer.token == STEP || lexer.token == PACE || lexer.token == OTHER_WORD;
        }

        private static int find(long[] names, int count, long name) {
            for (int i = 0; i < count && i < names.length; i++) {
                if (names[i] == name) {
                    return i;
                }
            }
            return NONE;
        }
    }

    /** What a PARTY tells, and what follows from it for two of its PEOPLE. */
    private static final class Party {
        int people = 0;
        final int[] kinds = new int[MOST_PEOPLE];
        final boolean[] women = new boolean[MOST_PEOPLE];
        final int[] talls = new int[MOST_PEOPLE];
        final int[] necks = new int[MOST_PEOPLE];
        private final int[] pairBits = new int[MOST_PEOPLE];
        private final int[] quarrelBits = new int[MOST_PEOPLE];
        int pairs = 0;
        int quarrels = 0;
        int fruits = 0;
        private final int[] sizes = new int[MOST_FRUITS];
        private final int[] slips = new int[MOST_FRUITS];
        final Laws laws = new Laws();
        boolean front = false;
        boolean turns = false;
        int pick = 3;

        void clear() {
            people = 0;
            Arrays.fill(pairBits, 0);
            Arrays.fill(quarrelBits, 0);
            pairs = 0;
            quarrels = 0;
            fruits = 0;
            laws.clear();
            front = false;
            turns = false;
            pick = 3;
        }

        void addPerson(int kind, boolean woman, int tall, int neck) {
            if (people < MOST_PEOPLE) {
                kinds[people] = kind;
                women[people] = woman;
                talls[people] = tall;
                necks[people] = neck;
                people++;
            }
        }

        void addFruit(int size, int slip) {
            if (fruits < MOST_FRUITS) {
                sizes[fruits] = size;
                slips[fruits] = slip;
                fruits++;
            }
        }

        boolean areTold(int one, int other) {
            return ((pairBits[one] | quarrelBits[one]) >> other & 1) != 0;
        }

        void addTwo(int one, int other, boolean pair) {
            int[] bits = pair ? pairBits : quarrelBits;
            bits[one] |= 1 << other;
            bits[other] |= 1 << one;
            if (pair) {
                pairs++;
            } else {
                quarrels++;
            }
        }

        private boolean isEither(int one, int other, int kind) {
            return kinds[one] == kind || kinds[other] == kind;
        }

        private int stepOf(int one, int other) {
            return Math.abs(talls[one] - talls[other]);
        }

        private void lookAtFruit(int fruit, int pace) {
            boolean told = fruit >= 0 && fruit < fruits;
            laws.lookAtFruit(told ? sizes[fruit] : 0, told ? slips[fruit] : 0, pace);
        }

        int chanceOf(int from, int to, int fruit, int pace) {
            if (kinds[from] == SHY && kinds[to] == SHY) {
                return 0;
            }
            laws.look(isEither(from, to, STOOPS) ? 0 : stepOf(from, to), necks[to]);
            lookAtFruit(fruit, pace);
            int chance = within(laws.value(HOLD), 0, TEN);
            chance += isEither(from, to, BEARD) ? 2 : 0;
            chance -= isEither(from, to, PEARLS) ? 2 : 0;
            chance -= isEither(from, to, SHY) ? 1 : 0;
            chance -= kinds[to] == COLD ? 1 : 0;
            return within(chance, 0, TEN);
        }

        int secondsOf(int from, int to, int fruit, int pace) {
            laws.look(stepOf(from, to), necks[to]);
            lookAtFruit(fruit, pace);
            int seconds = within(laws.value(TIME), 1, 99);
            return kinds[from] == BEARD && kinds[to] == BEARD ? seconds * 2 : seconds;
        }

        // Ten times what one try of a PASS costs on the mean, with the pick behind a fall.
        int costOf(int chance, int seconds) {
            return TEN * seconds + (TEN - chance) * pick;
        }

        boolean mayStandBehind(int next, int last, int before) {
            boolean torn = (pairBits[next] & before & ~(1 << last)) != 0;
            boolean quarrel = (quarrelBits[next] >> last & 1) != 0;
            boolean turnBroken = turns && women[next] == women[last];
            return !torn && !quarrel && !turnBroken;
        }

        boolean mayTeam(int set) {
            for (int i = 0; i < people; i++) {
                int own = (set >> i & 1) != 0 ? set : ~set;
                if ((pairBits[i] & ~own) != 0 || (quarrelBits[i] & own) != 0) {
                    return false;
                }
            }
            return true;
        }

        int difference(int set) {
            int difference = 0;
            for (int i = 0; i < people; i++) {
                difference += (set >> i & 1) != 0 ? talls[i] : -talls[i];
            }
            return Math.abs(difference);
        }

        int laughing(int[] line, int length, int begins) {
            int bits = 1 << line[begins];
            for (int i = begins + 1; i < length && catches(line[i - 1], line[i]); i++) {
                bits |= 1 << line[i];
            }
            for (int i = begins - 1; i >= 0 && catches(line[i + 1], line[i]); i--) {
                bits |= 1 << line[i];
            }
            return bits;
        }

        private boolean catches(int laughs, int sees) {
            if (kinds[sees] == SHY) {
                return false;
            }
            laws.look(stepOf(laughs, sees), necks[sees]);
            return laws.value(LAUGH) != 0;
        }
    }

    /** How a PARTY stands: what can be changed by hand. */
    private static final class Stand {
        final int[] order = new int[MOST_PEOPLE];
        int outBits = 0;
        int fruit = NONE;
        int pace = 0;

        void begin(int firstFruit) {
            for (int i = 0; i < MOST_PEOPLE; i++) {
                order[i] = i;
            }
            outBits = 0;
            fruit = firstFruit;
            pace = 0;
        }

        void take(Stand other) {
            System.arraycopy(other.order, 0, order, 0, MOST_PEOPLE);
            outBits = other.outBits;
            fruit = other.fruit;
            pace = other.pace;
        }

        boolean isOut(int person) {
            return (outBits >> person & 1) != 0;
        }

        void swap(int one, int other) {
            for (int i = 0; i < MOST_PEOPLE; i++) {
                if (order[i] == one) {
                    order[i] = other;
                } else if (order[i] == other) {
                    order[i] = one;
                }
            }
        }
    }

    /** The last stands, in a ring, so that the oldest falls out by itself. */
    private static final class Past {
        private final Stand[] stands = new Stand[MOST_UNDONE];
        private int next = 0;
        int size = 0;

        Past() {
            for (int i = 0; i < MOST_UNDONE; i++) {
                stands[i] = new Stand();
            }
        }

        void forget() {
            size = 0;
        }

        void keep(Stand stand) {
            stands[next].take(stand);
            next = (next + 1) % MOST_UNDONE;
            size = Math.min(size + 1, MOST_UNDONE);
        }

        boolean giveBack(Stand stand) {
            if (size == 0) {
                return false;
            }
            next = (next + MOST_UNDONE - 1) % MOST_UNDONE;
            size--;
            stand.take(stands[next]);
            return true;
        }
    }

    /** Above and below; all that the document can ask for stays far within a long. */
    private static final class Fraction {
        long above = 0;
        long below = 1;

        void set(long newAbove, long newBelow) {
            above = newAbove;
            below = newBelow;
        }

        void multiply(int byAbove, int byBelow) {
            above *= byAbove;
            below *= byBelow;
        }

        // By the law of the front all that came before is done anew with each try, not once.
        void addPass(int chance, int cost, boolean front) {
            above = above * (front ? TEN : chance) + cost * below;
            below *= chance;
        }

        int compareWith(long otherAbove, long otherBelow) {
            return Long.compare(above * otherBelow, otherAbove * below);
        }

        void reduce() {
            long divisor = below;
            long rest = above;
            for (int i = 0; i < 100 && rest != 0; i++) {
                long left = divisor % rest;
                divisor = rest;
                rest = left;
            }
            if (divisor != 0) {
                above /= divisor;
                below /= divisor;
            }
        }

        long part(int what) {
            return what == 0 ? above : what == 1 ? below : NONE;
        }
    }

    /**
     * All ORDERS and the LEAST one, from who stands already and who is the last of these: a longer mean behind the
     * same people never becomes the shorter one, by either law, so only the least of each such state is kept.
     */
    private static final class Orders {
        private static final int STATES = MOST_PEOPLE << MOST_PEOPLE;
        private final int[] ways = new int[STATES];
        private final long[] aboves = new long[STATES];
        private final long[] belows = new long[STATES];
        // Who stands where, three bits each, the first highest: the less number is the first order.
        private final int[] rows = new int[STATES];
        private final int[] chances = new int[MOST_PEOPLE * MOST_PEOPLE];
        private final int[] costs = new int[MOST_PEOPLE * MOST_PEOPLE];
        private final Fraction longer = new Fraction();
        boolean known = false;
        int total = 0;
        boolean hasLeast = false;
        final Fraction least = new Fraction();
        private int leastRow = 0;

        void find(Party party, Stand stand, int[] line, int length) {
            if (known) {
                return;
            }
            known = true;
            total = length == 0 ? 1 : 0;
            hasLeast = length == 0;
            least.set(0, 1);
            leastRow = 0;
            if (length > 0) {
                readPasses(party, stand, line, length);
                int all = begin(line, length);
                for (int set = 1; set < all; set++) {
                    if ((set & ~all) == 0) {
                        lengthen(party, set, all);
                    }
                }
                end(all);
            }
        }

        int whoAt(int place, int length) {
            return place >= 0 && place < length ? leastRow >> 3 * (length - 1 - place) & 7 : NONE;
        }

        private void readPasses(Party party, Stand stand, int[] line, int length) {
            for (int i = 0; i < length; i++) {
                for (int k = 0; k < length; k++) {
                    if (i != k) {
                        int pass = line[i] * MOST_PEOPLE + line[k];
                        int chance = party.chanceOf(line[i], line[k], stand.fruit, stand.pace);
                        int seconds = party.secondsOf(line[i], line[k], stand.fruit, stand.pace);
                        chances[pass] = chance;
                        costs[pass] = party.costOf(chance, seconds);
                    }
                }
            }
        }

        private int begin(int[] line, int length) {
            Arrays.fill(ways, 0);
            Arrays.fill(belows, 0);
            int all = 0;
            for (int i = 0; i < length; i++) {
                int state = (1 << line[i]) * MOST_PEOPLE + line[i];
                ways[state] = 1;
                aboves[state] = 0;
                belows[state] = 1;
                rows[state] = line[i];
                all |= 1 << line[i];
            }
            return all;
        }

        private void lengthen(Party party, int set, int all) {
            for (int last = 0; last < MOST_PEOPLE; last++) {
                int from = set * MOST_PEOPLE + last;
                for (int next = 0; next < MOST_PEOPLE && ways[from] > 0; next++) {
                    boolean free = ((all & ~set) >> next & 1) != 0;
                    if (free && party.mayStandBehind(next, last, set)) {
                        int to = (set | 1 << next) * MOST_PEOPLE + next;
                        ways[to] += ways[from];
                        offer(from, to, last * MOST_PEOPLE + next, party.front);
                    }
                }
            }
        }

        // A below of 0 says that no order so far has a mean in that state.
        private void offer(int from, int to, int pass, boolean front) {
            if (belows[from] == 0 || chances[pass] <= 0) {
                return;
            }
            longer.set(aboves[from], belows[from]);
            longer.addPass(chances[pass], costs[pass], front);
            int row = rows[from] << 3 | pass % MOST_PEOPLE;
            int compared = belows[to] == 0 ? -1 : longer.compareWith(aboves[to], belows[to]);
            if (compared < 0 || compared == 0 && row < rows[to]) {
                aboves[to] = longer.above;
                belows[to] = longer.below;
                rows[to] = row;
            }
        }

        private void end(int all) {
            for (int last = 0; last < MOST_PEOPLE; last++) {
                int state = all * MOST_PEOPLE + last;
                total += ways[state];
                if (belows[state] > 0) {
                    int compared = hasLeast ? -least.compareWith(aboves[state], belows[state]) : -1;
                    if (compared < 0 || compared == 0 && rows[state] < leastRow) {
                        hasLeast = true;
                        least.set(aboves[state], belows[state]);
                        leastRow = rows[state];
                    }
                }
            }
            least.reduce();
        }
    }
}
