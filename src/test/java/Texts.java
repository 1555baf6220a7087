import java.util.ArrayList;
import java.util.Collections;
import java.util.List;
import java.util.Random;

/** Draws texts: parties that are right, and such with something wrong in them. */
final class Texts {
    private static final String[] NAMES = {"a", "bo", "cyd", "dora", "step", "pace", "eva", "ferdinan", "gus", "hal",
        "ida", "kai", "leo", "mimi"};
    private static final String[] TOKENS = {"man", "woman", "tall", "neck", "fruit", "size", "slip", "hold", "time",
        "laugh", "pair", "quarrel", "fall", "front", "there", "pick", "turns", "plain", "beard", "pearls", "shy",
        "stoops", "cold", "not", "and", "or", "step", "pace", "a", "bo", "abcdefgh", "abcdefghi", "0", "9", "10", "99",
        "100", "9999", "0009", "12345", "00000", "(", ")", "<", "=", "+", "-", "*", ";", ";", ";", "A", "/", ">", "_",
        "\n", "7a", "a7", "{", "."};
    private final Random random;

    Texts(Random random) {
        this.random = random;
    }

    private String blank() {
        return random.nextInt(12) == 0 ? random.nextBoolean() ? "\n" : "  " : " ";
    }

    private String join(String... tokens) {
        StringBuilder text = new StringBuilder();
        for (String token : tokens) text.append(token).append(blank());
        return text.toString();
    }

    String party() {
        List<String> names = new ArrayList<>(List.of(NAMES));
        Collections.shuffle(names, random);
        int people = random.nextInt(8);
        int fruits = random.nextInt(5);
        List<String> lines = new ArrayList<>();
        int range = random.nextInt(4) == 0 ? 3 : 100;
        for (int i = 0; i < people; i++) {
            String kind = random.nextInt(3) == 0 ? "plain" : Model.KINDS.get(random.nextInt(6));
            lines.add(join(random.nextBoolean() ? "man" : "woman", names.get(i), kind, "tall",
                "" + random.nextInt(range), "neck", "" + random.nextInt(10), ";"));
        }
        for (int i = 0; i < fruits; i++) {
            int at = random.nextInt(lines.size() + 1);
            lines.add(at, join("fruit", names.get(7 + i), "size", "" + random.nextInt(10), "slip",
                "" + random.nextInt(10), ";"));
        }
        if (random.nextInt(3) > 0) addOnce(lines, "hold " + law(false));
        if (random.nextInt(3) > 0) addOnce(lines, "time " + law(false));
        if (random.nextInt(3) > 0) addOnce(lines, "laugh " + law(true));
        if (random.nextInt(3) > 0) addOnce(lines, random.nextBoolean() ? "fall front" : "fall there");
        if (random.nextInt(3) > 0) addOnce(lines, "pick " + random.nextInt(random.nextBoolean() ? 100 : 6));
        if (random.nextInt(4) == 0) addOnce(lines, "turns");
        List<String> twos = new ArrayList<>();
        int links = random.nextInt(3) == 0 ? random.nextInt(6) : random.nextInt(2);
        for (int i = 0; i < links && people > 1; i++) {
            int one = random.nextInt(people);
            int other = random.nextInt(people);
            if (one != other && !twos.contains(one + " " + other) && !twos.contains(other + " " + one)) {
                twos.add(one + " " + other);
                lines.add(join(random.nextBoolean() ? "pair" : "quarrel", names.get(one), names.get(other), ";"));
            }
        }
        return String.join("", lines);
    }

    private void addOnce(List<String> lines, String line) {
        lines.add(random.nextInt(lines.size() + 1), line + blank() + ";" + blank());
    }

    String law(boolean laugh) {
        if (!laugh && random.nextInt(2) == 0) {
            return random.nextInt(11) + " - pace * " + random.nextInt(3) + " + slip - size + (step < "
                + random.nextInt(60) + ") * " + random.nextInt(6);
        }
        return either(0, laugh, random.nextInt(3));
    }

    private String either(int depth, boolean laugh, int width) {
        String text = test(depth, laugh, width);
        for (int i = random.nextInt(width + 1); i > 1; i--) {
            text += (random.nextBoolean() ? " and " : " or ") + test(depth, laugh, width);
        }
        return text;
    }

    private String test(int depth, boolean laugh, int width) {
        String text = sum(depth, laugh, width);
        int sort = random.nextInt(6);
        return sort > 1 ? text : text + (sort == 0 ? "<" : " = ") + sum(depth, laugh, width);
    }

    private String sum(int depth, boolean laugh, int width) {
        String text = product(depth, laugh, width);
        for (int i = random.nextInt(width + 2); i > 1; i--) {
            text += (random.nextBoolean() ? "+" : " - ") + product(depth, laugh, width);
        }
        return text;
    }

    private String product(int depth, boolean laugh, int width) {
        String text = part(depth, laugh, width);
        for (int i = random.nextInt(width + 2); i > 1; i--) text += " * " + part(depth, laugh, width);
        return text;
    }

    private String part(int depth, boolean laugh, int width) {
        int sort = random.nextInt(depth < 4 ? 10 : 6);
        if (sort > 7) return "not " + part(depth + 1, laugh, width);
        if (sort > 5) return "(" + either(depth + 1, laugh, width) + ")";
        if (sort > 2) return "" + random.nextInt(random.nextInt(5) == 0 ? 10000 : 12);
        if (laugh) return random.nextBoolean() ? "step" : "neck";
        return new String[] {"step", "neck", "size", "slip", "pace"}[random.nextInt(5)];
    }

    /** The text with one to three places changed by token or by sign, which may still be right. */
    String spoilt(String text) {
        for (int i = random.nextInt(3); i >= 0; i--) {
            int at = random.nextInt(text.length() + 1);
            int to = Math.min(text.length(), at + random.nextInt(4));
            String middle = TOKENS[random.nextInt(TOKENS.length)];
            switch (random.nextInt(6)) {
                case 0 -> text = text.substring(0, at);
                case 1 -> text = text.substring(0, at) + text.substring(to);
                case 2 -> text = text.substring(0, at) + (char) (32 + random.nextInt(95)) + text.substring(to);
                case 3 -> text = text.substring(0, at) + middle + text.substring(at);
                default -> text = swapped(text, middle);
            }
        }
        return text;
    }

    private String swapped(String text, String token) {
        String[] tokens = text.split(" ", -1); // blanks alone would give no token at all otherwise
        tokens[random.nextInt(tokens.length)] = random.nextInt(3) == 0 ? tokens[random.nextInt(tokens.length)] : token;
        return String.join(" ", tokens);
    }

    /** A heap of tokens behind the beginning of something right. */
    String heap() {
        StringBuilder text = new StringBuilder(random.nextBoolean() ? "" : "man a plain tall 1 neck 2 ; man bo shy tall 3 neck 4 ; ");
        text.append(random.nextInt(3) == 0 ? "hold " : random.nextInt(3) == 0 ? "laugh not ( " : "");
        for (int i = random.nextInt(12); i > 0; i--) text.append(TOKENS[random.nextInt(TOKENS.length)]).append(random.nextInt(5) == 0 ? "" : " ");
        return text.toString();
    }
}
