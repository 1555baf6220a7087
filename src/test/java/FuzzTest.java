import java.util.Random;

/** Draws runs of calls, by fixed seeds, and holds each answer against the Model's. */
public final class FuzzTest {
    private static final int RUNS = Integer.getInteger("runs", 400);
    private static final int[] EDGES = {Integer.MIN_VALUE, Integer.MIN_VALUE + 1, -2, -1, 7, 8, 9, 10, 11, 20, 21, 31, 32,
        33, 9999, 10000, Integer.MAX_VALUE - 1, Integer.MAX_VALUE};
    private final Random random;
    private final Texts texts;
    private final ChinRow row = new ChinRow();
    private final Model model = new Model();
    private final Check check;
    private int calls = 0;

    private FuzzTest(Check check, int seed) {
        this.check = check;
        random = new Random(seed);
        texts = new Texts(random);
    }

    public static void main(String[] args) {
        Check check = new Check("FuzzTest");
        for (int seed = 0; seed < RUNS; seed++) new FuzzTest(check, seed).run();
        for (int seed = 0; seed < RUNS; seed++) new FuzzTest(check, -1 - seed).readOnly();
        check.end();
    }

    private void run() {
        tell();
        while (calls < 480) {
            if (random.nextInt(60) == 0) tell();
            one(random.nextInt(24));
        }
    }

    private void readOnly() {
        while (calls < 300) {
            feed(random.nextInt(3) == 0 ? texts.heap() : texts.spoilt(random.nextInt(20) == 0 ? " " : texts.party()));
            party();
            calls += 30;
        }
    }

    private int pick(int below) {
        return random.nextInt(12) == 0 ? EDGES[random.nextInt(EDGES.length)] : random.nextInt(below);
    }

    private void tell() {
        String text = texts.party();
        feed(random.nextInt(4) == 0 ? texts.spoilt(text) : text);
        party();
    }

    private void feed(String text) {
        for (int i = 0; i < text.length(); i += 24) {
            feed(Check.eight(text, i), Check.eight(text, i + 8), Check.eight(text, i + 16));
        }
    }

    private void feed(long a, long b, long c) {
        due("feed", row.feed(a, b, c), model.feed(a, b, c));
    }

    private void party() {
        String text = model.tape.toString();
        due("party of '" + text + "'", row.party(), model.party());
    }

    private void due(String call, long got, long want) {
        calls++;
        check.due(got == want ? call : call + " with " + model, got, want);
    }

    private void due(String call, boolean got, boolean want) {
        due(call, got ? 1 : 0, want ? 1 : 0);
    }

    private void one(int sort) {
        int a = pick(8);
        int b = pick(8);
        int c = pick(5);
        boolean yes = random.nextBoolean();
        String args = "(" + a + ", " + b + ", " + c + ", " + yes + ")";
        switch (sort) {
            case 0 -> feed(random.nextInt(20) > 0 ? 0 : random.nextLong(), 0, random.nextInt(40) > 0 ? 0 : random.nextLong());
            case 1 -> due("person" + args, row.person(a, c), model.person(a, c));
            case 2 -> due("row" + args, row.row(a), model.row(a));
            case 3 -> due("change" + args, row.change(a, b), model.change(a, b));
            case 4 -> due("out" + args, row.out(a, yes), model.out(a, yes));
            case 5 -> due("fruit" + args, row.fruit(c), model.fruit(c));
            case 6 -> due("pace" + args, row.pace(c), model.pace(c));
            case 7 -> due("undo", row.undo(), model.undo());
            case 8 -> due("chance" + args, row.chance(a, b, c), model.chance(a, b, c));
            case 9 -> due("seconds" + args, row.seconds(a, b, c), model.seconds(a, b, c));
            case 10 -> due("mean" + args, row.mean(c), model.mean(c));
            case 11 -> due("falls" + args, row.falls(a - 1, c), model.falls(a - 1, c));
            case 12 -> least();
            case 13 -> orders();
            case 14 -> due("best", row.best(), model.best());
            case 15 -> bought();
            case 16 -> hurry();
            case 17 -> due("laughs" + args, row.laughs(a), model.laughs(a));
            case 18 -> due("outer" + args, row.outer(a), model.outer(a));
            case 19 -> due("even" + args, row.even(c), model.even(c));
            case 20 -> let();
            case 21 -> evening();
            case 22 -> due("mark" + args, row.mark(c, yes), model.mark(c, yes));
            default -> due("count" + args, row.count(a + c), model.count(a + c));
        }
    }

    private void least() {
        if (model.row().size() > 5 && random.nextInt(model.row().size() == 7 ? 40 : 6) > 0) return;
        long[] want = model.leastOne();
        for (int what : new int[] {Integer.MIN_VALUE, -1, 0, 1, 2, 3, 4, 5, 6, 7, 8, 9, Integer.MAX_VALUE}) {
            boolean told = want != null && what >= 0 && what < want.length;
            due("least(" + what + ")", row.least(what), told ? want[what] : Model.NONE);
        }
    }

    private void orders() {
        if (model.row().size() > 6 && random.nextInt(10) > 0) return;
        due("orders", row.orders(), model.orders());
    }

    private void bought() {
        int fruits = pick(22);
        due("bought(" + fruits + ")", row.bought(fruits), model.bought(fruits));
    }

    private void hurry() {
        int ours = pick(8);
        int theirs = pick(11);
        int chance = pick(11);
        for (int i = 0; i < 2; i++) {
            due("hurry(" + ours + ", " + theirs + ", " + chance + ", " + (i == 1) + ")",
                row.hurry(ours, theirs, chance, i == 1), model.hurry(ours, theirs, chance, i == 1));
        }
    }

    private void let() {
        int held = pick(6);
        int fell = pick(6);
        int one = pick(11);
        int other = pick(11);
        int what = pick(3);
        due("let(" + held + ", " + fell + ", " + one + ", " + other + ", " + what + ")",
            row.let(held, fell, one, other, what), model.let(held, fell, one, other, what));
    }

    private void evening() {
        int seed = random.nextInt(10) == 0 ? pick(3) : random.nextInt(10000);
        for (int what = -1; what < 5; what++) {
            due("evening(" + seed + ", " + what + ")", row.evening(seed, what), model.evening(seed, what));
        }
    }
}
