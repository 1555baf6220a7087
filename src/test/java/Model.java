import java.math.BigInteger;
import java.util.ArrayDeque;
import java.util.ArrayList;
import java.util.Arrays;
import java.util.Collections;
import java.util.HashMap;
import java.util.List;
import java.util.Map;
import java.util.Set;
import java.util.TreeMap;

/**
 * The document once more, written from its words alone and in other ways than the class: by recursion, by whole
 * searches and with BigIntegers. FuzzTest holds the two against each other.
 */
final class Model {
    static final int NONE = -1;
    static final List<String> KINDS = List.of("plain", "beard", "pearls", "shy", "stoops", "cold");
    static final Set<String> RESERVED = Set.of("man", "woman", "tall", "neck", "fruit", "size", "slip", "hold", "time",
        "laugh", "pair", "quarrel", "fall", "front", "there", "pick", "turns", "plain", "beard", "pearls", "shy",
        "stoops", "cold", "not", "and", "or");

    // ---- numbers

    record Ratio(BigInteger above, BigInteger below) implements Comparable<Ratio> {
        static Ratio of(long above, long below) {
            return new Ratio(BigInteger.valueOf(above), BigInteger.valueOf(below)).lowest();
        }

        Ratio lowest() {
            BigInteger gcd = above.gcd(below);
            return new Ratio(above.divide(gcd), below.divide(gcd));
        }

        Ratio plus(Ratio o) {
            return new Ratio(above.multiply(o.below).add(o.above.multiply(below)), below.multiply(o.below)).lowest();
        }

        Ratio times(Ratio o) {
            return new Ratio(above.multiply(o.above), below.multiply(o.below)).lowest();
        }

        Ratio minus(Ratio o) {
            return plus(o.times(of(-1, 1)));
        }

        Ratio by(Ratio o) {
            return new Ratio(above.multiply(o.below), below.multiply(o.above)).lowest();
        }

        @Override
        public int compareTo(Ratio o) {
            return above.multiply(o.below).compareTo(o.above.multiply(below));
        }

        long part(int what) {
            return what == 0 ? above.longValueExact() : what == 1 ? below.longValueExact() : NONE;
        }
    }

    static final Ratio ZERO = Ratio.of(0, 1);
    static final Ratio ONE = Ratio.of(1, 1);

    // ---- the language

    static final class Fault extends Exception {
        private static final long serialVersionUID = 1;

        final int code;

        Fault(int kind, int place) {
            code = kind + 16 * place;
        }
    }

    record Token(String text, int place, char sort) { } // w word, n number, s sign, x none, e end

    static List<Token> tokens(String text) {
        List<Token> tokens = new ArrayList<>();
        int i = 0;
        while (i < text.length()) {
            char c = text.charAt(i);
            int k = i + 1;
            if (c == ' ' || c == '\n') {
                i++;
                continue;
            }
            if (c >= 'a' && c <= 'z') {
                while (k < text.length() && text.charAt(k) >= 'a' && text.charAt(k) <= 'z') k++;
                tokens.add(new Token(text.substring(i, k), i, k - i <= 8 ? 'w' : 'x'));
            } else if (c >= '0' && c <= '9') {
                while (k < text.length() && text.charAt(k) >= '0' && text.charAt(k) <= '9') k++;
                tokens.add(new Token(text.substring(i, k), i, k - i <= 4 ? 'n' : 'x'));
            } else {
                tokens.add(new Token(text.substring(i, k), i, "()<=+-*;".indexOf(c) >= 0 ? 's' : 'x'));
            }
            i = k;
        }
        tokens.add(new Token("", text.length(), 'e'));
        return tokens;
    }

    interface E {
        int of(Map<String, Integer> facts);
    }

    record Person(String name, int kind, boolean woman, int tall, int neck) { }

    record Fruit(String name, int size, int slip) { }

    static final class Party {
        final List<Person> people = new ArrayList<>();
        final List<Fruit> fruits = new ArrayList<>();
        final List<int[]> pairs = new ArrayList<>();
        final List<int[]> quarrels = new ArrayList<>();
        E hold;
        E time;
        E laugh;
        String fall;
        int pick = 3;
        boolean pickTold;
        boolean turns;
    }

    static final class Parser {
        final List<Token> tokens;
        int at = 0;
        final Party party = new Party();

        Parser(String text) {
            tokens = tokens(text);
        }

        Token now() {
            return tokens.get(at);
        }

        Fault fault(int kind) {
            return new Fault(kind, now().place());
        }

        boolean is(String text) {
            return now().text().equals(text) && (now().sort() == 'w' || now().sort() == 's');
        }

        void need(String text) throws Fault {
            if (!is(text)) throw fault(1);
            at++;
        }

        Party all() throws Fault {
            while (now().sort() != 'e') {
                statement();
                need(";");
            }
            return party;
        }

        void once(boolean told) throws Fault {
            if (told) throw fault(3);
            at++;
        }

        void statement() throws Fault {
            if (now().sort() != 'w') throw fault(1);
            switch (now().text()) {
                case "man", "woman" -> {
                    boolean woman = is("woman");
                    if (party.people.size() == 7) throw fault(5);
                    at++;
                    String name = newName();
                    if (now().sort() != 'w' || !KINDS.contains(now().text())) throw fault(1);
                    int kind = KINDS.indexOf(now().text());
                    at++;
                    need("tall");
                    int tall = number(99);
                    need("neck");
                    party.people.add(new Person(name, kind, woman, tall, number(9)));
                }
                case "fruit" -> {
                    if (party.fruits.size() == 4) throw fault(5);
                    at++;
                    String name = newName();
                    need("size");
                    int size = number(9);
                    need("slip");
                    party.fruits.add(new Fruit(name, size, number(9)));
                }
                case "pair", "quarrel" -> {
                    List<int[]> list = is("pair") ? party.pairs : party.quarrels;
                    at++;
                    int one = oldName();
                    at++;
                    int other = oldName();
                    if (one == other || linked(party.pairs, one, other) || linked(party.quarrels, one, other)) {
                        throw fault(3);
                    }
                    at++;
                    list.add(new int[] {one, other});
                }
                case "hold" -> {
                    once(party.hold != null);
                    party.hold = either(0, false);
                }
                case "time" -> {
                    once(party.time != null);
                    party.time = either(0, false);
                }
                case "laugh" -> {
                    once(party.laugh != null);
                    party.laugh = either(0, true);
                }
                case "fall" -> {
                    once(party.fall != null);
                    if (!is("front") && !is("there")) throw fault(1);
                    party.fall = now().text();
                    at++;
                }
                case "pick" -> {
                    once(party.pickTold);
                    party.pick = number(99);
                    party.pickTold = true;
                }
                case "turns" -> {
                    once(party.turns);
                    party.turns = true;
                }
                default -> throw fault(1);
            }
        }

        String name() throws Fault {
            if (now().sort() != 'w' || RESERVED.contains(now().text())) throw fault(1);
            return now().text();
        }

        String newName() throws Fault {
            String name = name();
            for (Person p : party.people) if (p.name().equals(name)) throw fault(3);
            for (Fruit f : party.fruits) if (f.name().equals(name)) throw fault(3);
            at++;
            return name;
        }

        int oldName() throws Fault {
            String name = name();
            for (int i = 0; i < party.people.size(); i++) if (party.people.get(i).name().equals(name)) return i;
            throw fault(2);
        }

        int number(int most) throws Fault {
            if (now().sort() != 'n') throw fault(1);
            int number = Integer.parseInt(now().text());
            if (number > most) throw fault(4);
            at++;
            return number;
        }

        E either(int depth, boolean laugh) throws Fault {
            E left = test(depth, laugh);
            while (is("and") || is("or")) {
                boolean and = is("and");
                at++;
                E a = left;
                E b = test(depth, laugh);
                left = f -> (and ? a.of(f) != 0 && b.of(f) != 0 : a.of(f) != 0 || b.of(f) != 0) ? 1 : 0;
            }
            return left;
        }

        E test(int depth, boolean laugh) throws Fault {
            E a = sum(depth, laugh);
            if (is("<")) {
                at++;
                E b = sum(depth, laugh);
                return f -> a.of(f) < b.of(f) ? 1 : 0;
            }
            if (is("=")) {
                at++;
                E b = sum(depth, laugh);
                return f -> a.of(f) == b.of(f) ? 1 : 0;
            }
            return a;
        }

        E sum(int depth, boolean laugh) throws Fault {
            E left = product(depth, laugh);
            while (is("+") || is("-")) {
                int sign = is("+") ? 1 : -1;
                at++;
                E a = left;
                E b = product(depth, laugh);
                left = f -> a.of(f) + sign * b.of(f);
            }
            return left;
        }

        E product(int depth, boolean laugh) throws Fault {
            E left = part(depth, laugh);
            while (is("*")) {
                at++;
                E a = left;
                E b = part(depth, laugh);
                left = f -> a.of(f) * b.of(f);
            }
            return left;
        }

        E part(int depth, boolean laugh) throws Fault {
            Set<String> facts = laugh ? Set.of("step", "neck") : Set.of("step", "neck", "size", "slip", "pace");
            boolean fact = now().sort() == 'w' && facts.contains(now().text());
            if (now().sort() != 'n' && !fact && !is("not") && !is("(")) throw fault(1);
            if (depth >= 5) throw fault(5);
            if (is("not")) {
                at++;
                E a = part(depth + 1, laugh);
                return f -> a.of(f) == 0 ? 1 : 0;
            }
            if (is("(")) {
                at++;
                E a = either(depth + 1, laugh);
                need(")");
                return a;
            }
            String text = now().text();
            at++;
            if (fact) return f -> f.get(text);
            int number = Integer.parseInt(text);
            return f -> number;
        }
    }

    static boolean linked(List<int[]> twos, int one, int other) {
        for (int[] two : twos) {
            if (two[0] == one && two[1] == other || two[0] == other && two[1] == one) return true;
        }
        return false;
    }

    // ---- the state

    record State(List<Integer> order, Set<Integer> out, int fruit, int pace) { }

    final StringBuilder tape = new StringBuilder();
    Party party = new Party();
    State state = new State(List.of(), Set.of(), NONE, 0);
    final ArrayDeque<State> past = new ArrayDeque<>();
    final Map<Integer, State> marks = new TreeMap<>();

    int feed(long a, long b, long c) {
        for (long bytes : new long[] {a, b, c}) {
            for (int i = 7; i >= 0; i--) {
                int sign = (int) (bytes >> 8 * i) & 0xff;
                if ((sign == 10 || sign > 31 && sign < 127) && tape.length() < 1000) tape.append((char) sign);
            }
        }
        return tape.length();
    }

    int party() {
        String text = tape.toString();
        tape.setLength(0);
        try {
            party = new Parser(text).all();
        } catch (Fault fault) {
            return fault.code;
        }
        List<Integer> order = new ArrayList<>();
        for (int i = 0; i < party.people.size(); i++) order.add(i);
        state = new State(order, Set.of(), party.fruits.isEmpty() ? NONE : 0, 0);
        past.clear();
        marks.clear();
        return 0;
    }

    List<Integer> row() {
        List<Integer> row = new ArrayList<>(state.order);
        row.removeAll(state.out);
        return row;
    }

    boolean known(int person) {
        return person >= 0 && person < party.people.size();
    }

    int person(int person, int what) {
        if (!known(person)) return NONE;
        Person p = party.people.get(person);
        return switch (what) {
            case 0 -> p.kind();
            case 1 -> p.woman() ? 1 : 0;
            case 2 -> p.tall();
            case 3 -> p.neck();
            case 4 -> row().indexOf(person);
            default -> NONE;
        };
    }

    int row(int place) {
        return place >= 0 && place < row().size() ? row().get(place) : NONE;
    }

    boolean go(State next) {
        past.addLast(state);
        if (past.size() > 20) past.removeFirst();
        state = next;
        return true;
    }

    boolean change(int one, int other) {
        if (one == other || !row().contains(one) || !row().contains(other)) return false;
        List<Integer> order = new ArrayList<>(state.order);
        Collections.swap(order, order.indexOf(one), order.indexOf(other));
        return go(new State(order, state.out, state.fruit, state.pace));
    }

    boolean out(int person, boolean out) {
        if (!known(person) || state.out.contains(person) == out) return false;
        Set<Integer> outs = new java.util.TreeSet<>(state.out);
        if (out) outs.add(person); else outs.remove(person);
        return go(new State(state.order, outs, state.fruit, state.pace));
    }

    boolean fruit(int fruit) {
        if (fruit < 0 || fruit >= party.fruits.size() || fruit == state.fruit) return false;
        return go(new State(state.order, state.out, fruit, state.pace));
    }

    boolean pace(int pace) {
        if (pace < 0 || pace > 3 || pace == state.pace) return false;
        return go(new State(state.order, state.out, state.fruit, pace));
    }

    boolean undo() {
        if (past.isEmpty()) return false;
        state = past.removeLast();
        return true;
    }

    boolean mark(int mark, boolean back) {
        if (mark < 0 || mark > 3 || back && !marks.containsKey(mark)) return false;
        if (back) {
            state = marks.get(mark);
            past.clear();
        } else {
            marks.put(mark, state);
        }
        return true;
    }

    int count(int what) {
        return switch (what) {
            case 0 -> party.people.size();
            case 1 -> party.fruits.size();
            case 2 -> row().size();
            case 3 -> state.fruit;
            case 4 -> state.pace;
            case 5 -> party.pick;
            case 6 -> "front".equals(party.fall) ? 1 : 0;
            case 7 -> party.pairs.size();
            case 8 -> party.quarrels.size();
            case 9 -> past.size();
            case 10 -> tape.length();
            default -> NONE;
        };
    }

    // ---- a pass

    Map<String, Integer> facts(int from, int to, int fruit, int pace) {
        Map<String, Integer> facts = new HashMap<>();
        Person a = party.people.get(from);
        Person b = party.people.get(to);
        facts.put("step", Math.max(a.tall() - b.tall(), b.tall() - a.tall()));
        facts.put("neck", b.neck());
        facts.put("size", fruit == NONE ? 0 : party.fruits.get(fruit).size());
        facts.put("slip", fruit == NONE ? 0 : party.fruits.get(fruit).slip());
        facts.put("pace", pace);
        return facts;
    }

    String kind(int person) {
        return KINDS.get(party.people.get(person).kind());
    }

    int chance(int from, int to, int fruit, int pace) {
        List<String> both = List.of(kind(from), kind(to));
        Map<String, Integer> facts = facts(from, to, fruit, pace);
        if (both.contains("stoops")) facts.put("step", 0);
        int chance = party.hold == null ? 8 - pace : party.hold.of(facts);
        if (chance < 0) chance = 0;
        if (chance > 10) chance = 10;
        if (both.contains("beard")) chance += 2;
        if (both.contains("pearls")) chance -= 2;
        if (both.contains("shy")) chance -= 1;
        if (kind(to).equals("cold")) chance -= 1;
        if (chance < 0 || both.equals(List.of("shy", "shy"))) chance = 0;
        return chance > 10 ? 10 : chance;
    }

    int seconds(int from, int to, int fruit, int pace) {
        int seconds = party.time == null ? 9 - pace * 2 : party.time.of(facts(from, to, fruit, pace));
        if (seconds < 1) seconds = 1;
        if (seconds > 99) seconds = 99;
        return List.of(kind(from), kind(to)).equals(List.of("beard", "beard")) ? 2 * seconds : seconds;
    }

    boolean noPass(int from, int to, int pace) {
        return !known(from) || !known(to) || from == to || pace < 0 || pace > 3;
    }

    int chance(int from, int to, int pace) {
        return noPass(from, to, pace) ? NONE : chance(from, to, state.fruit, pace);
    }

    int seconds(int from, int to, int pace) {
        return noPass(from, to, pace) ? NONE : seconds(from, to, state.fruit, pace);
    }

    boolean front() {
        return "front".equals(party.fall);
    }

    // E_i = a_i + b_i * E_0 by first steps, from the last pass back; null: none.
    Ratio meanOf(List<Integer> row, int fruit) {
        Ratio a = ZERO;
        Ratio b = ZERO;
        for (int i = row.size() - 2; i >= 0; i--) {
            int chance = chance(row.get(i), row.get(i + 1), fruit, state.pace);
            if (chance == 0) return null;
            Ratio seconds = Ratio.of(seconds(row.get(i), row.get(i + 1), fruit, state.pace), 1);
            Ratio p = Ratio.of(chance, 10);
            Ratio q = ONE.minus(p);
            if (front()) {
                a = seconds.plus(p.times(a)).plus(q.times(Ratio.of(party.pick, 1)));
                b = p.times(b).plus(q);
            } else { // e = seconds + q * (pick + e) + p * a
                a = seconds.plus(q.times(Ratio.of(party.pick, 1))).plus(p.times(a)).by(p);
            }
        }
        return a.by(ONE.minus(b));
    }

    long mean(int what) {
        Ratio mean = meanOf(row(), state.fruit);
        return mean == null ? NONE : mean.part(what);
    }

    long falls(int i, int what) {
        List<Integer> row = row();
        if (i < -1 || i >= Math.max(0, row.size() - 1)) return NONE;
        Ratio all = ONE;
        for (int k = 0; k + 1 < row.size(); k++) {
            Ratio p = Ratio.of(chance(row.get(k), row.get(k + 1), state.fruit, state.pace), 10);
            if (k == i) return all.times(ONE.minus(p)).part(what);
            all = all.times(p);
        }
        return all.part(what);
    }

    // ---- orders

    boolean allowed(List<Integer> order) {
        for (int[] two : party.pairs) {
            int a = order.indexOf(two[0]);
            int b = order.indexOf(two[1]);
            if (a >= 0 && b >= 0 && Math.abs(a - b) != 1) return false;
        }
        for (int i = 0; i + 1 < order.size(); i++) {
            if (linked(party.quarrels, order.get(i), order.get(i + 1))) return false;
            boolean same = party.people.get(order.get(i)).woman() == party.people.get(order.get(i + 1)).woman();
            if (party.turns && same) return false;
        }
        return true;
    }

    void permute(List<Integer> begun, List<Integer> rest, List<List<Integer>> into) {
        if (rest.isEmpty() && allowed(begun)) into.add(new ArrayList<>(begun));
        for (Integer next : rest) {
            List<Integer> left = new ArrayList<>(rest);
            left.remove(next);
            begun.add(next);
            permute(begun, left, into);
            begun.remove(begun.size() - 1);
        }
    }

    List<List<Integer>> allOrders() {
        List<Integer> who = row();
        Collections.sort(who);
        List<List<Integer>> all = new ArrayList<>();
        permute(new ArrayList<>(), who, all);
        return all;
    }

    int orders() {
        return allOrders().size();
    }

    /** Above, below, then the row; null: none. */
    long[] leastOne() {
        Ratio best = null;
        List<Integer> bestRow = null;
        for (List<Integer> order : allOrders()) {
            Ratio mean = meanOf(order, state.fruit);
            if (mean != null && (best == null || mean.compareTo(best) < 0)) {
                best = mean;
                bestRow = order;
            }
        }
        if (best == null) return null;
        long[] all = new long[2 + bestRow.size()];
        all[0] = best.part(0);
        all[1] = best.part(1);
        for (int i = 0; i < bestRow.size(); i++) all[2 + i] = bestRow.get(i);
        return all;
    }

    long least(int what) {
        long[] all = leastOne();
        return all == null || what < 0 || what >= all.length ? NONE : all[what];
    }

    int best() {
        int best = NONE;
        Ratio least = null;
        for (int i = 0; i < party.fruits.size(); i++) {
            Ratio mean = meanOf(row(), i);
            if (mean != null && (least == null || mean.compareTo(least) < 0)) {
                least = mean;
                best = i;
            }
        }
        return best;
    }

    // ---- games

    int bought(int fruits) {
        if (fruits < 1 || fruits > 20) return NONE;
        List<Integer> row = row();
        int passes = Math.max(0, row.size() - 1);
        Map<List<Integer>, Long> groups = new TreeMap<>((a, b) ->
            !a.get(0).equals(b.get(0)) ? a.get(0) - b.get(0) : a.get(1) - b.get(1)); // {spoilt, pass}, least first
        groups.put(List.of(0, 0), 1000000L);
        long through = 0;
        while (!groups.isEmpty()) {
            List<Integer> group = groups.keySet().iterator().next();
            long rows = groups.remove(group);
            int spoilt = group.get(0);
            int pass = group.get(1);
            if (spoilt >= fruits) continue;
            if (pass == passes) {
                through += rows;
                continue;
            }
            long held = rows * chance(row.get(pass), row.get(pass + 1), state.fruit, state.pace) / 10;
            groups.merge(List.of(spoilt, pass + 1), held, Long::sum);
            groups.merge(List.of(spoilt + 1, front() ? 0 : pass), rows - held, Long::sum);
        }
        return (int) through;
    }

    private final Map<List<Integer>, long[]> wins = new HashMap<>();

    long[] win(int ours, int theirs, int chance) { // win, pace
        List<Integer> key = List.of(ours, theirs, chance);
        if (!wins.containsKey(key)) wins.put(key, winAnew(ours, theirs, chance));
        return wins.get(key);
    }

    private long[] winAnew(int ours, int theirs, int chance) {
        if (ours == 0) return new long[] {theirs == 0 ? 500000 : 1000000, NONE};
        if (theirs == 0) return new long[] {0, NONE};
        List<Integer> row = row();
        long both = win(ours - 1, theirs - 1, chance)[0];
        long we = win(ours - 1, theirs, chance)[0];
        long they = win(ours, theirs - 1, chance)[0];
        long[] best = {-1, NONE};
        for (int pace = 0; pace < 4; pace++) {
            int from = row.size() - 1 - ours;
            long p = chance(row.get(from), row.get(from + 1), state.fruit, pace);
            long some = 100 - (10 - p) * (10 - chance);
            long win = (both * p * chance + we * p * (10 - chance) + they * (10 - p) * chance) / some;
            if (win > best[0]) best = new long[] {win, pace};
        }
        return best;
    }

    int hurry(int ours, int theirs, int chance, boolean pace) {
        if (ours < 1 || ours > row().size() - 1 || theirs < 1 || theirs > 9 || chance < 1 || chance > 10) return NONE;
        wins.clear();
        return (int) win(ours, theirs, chance)[pace ? 1 : 0];
    }

    int laughing(List<Integer> row, int begins) {
        Set<Integer> laughing = new java.util.TreeSet<>(Set.of(begins));
        for (int round = 0; round < 8; round++) {
            for (int i = 0; i < row.size(); i++) {
                for (int k = i - 1; k <= i + 1; k += 2) {
                    if (k < 0 || k >= row.size() || !laughing.contains(row.get(k))) continue;
                    boolean funny = party.laugh == null || party.laugh.of(facts(row.get(k), row.get(i), NONE, 0)) != 0;
                    if (funny && !kind(row.get(i)).equals("shy")) laughing.add(row.get(i));
                }
            }
        }
        int bits = 0;
        for (int who : laughing) bits += 1 << who;
        return bits;
    }

    int laughs(int person) {
        return row().contains(person) ? laughing(row(), person) : NONE;
    }

    int outer(int person) {
        if (!row().contains(person)) return NONE;
        int outer = NONE;
        int fewest = 99;
        for (int who : row()) {
            if (who == person) continue;
            List<Integer> rest = row();
            rest.remove((Integer) who);
            int laugh = Integer.bitCount(laughing(rest, person));
            if (laugh < fewest) {
                fewest = laugh;
                outer = who;
            }
        }
        return outer;
    }

    int even(int what) {
        int n = party.people.size();
        int bestSet = NONE;
        int best = NONE;
        for (int set = 0; set < 1 << n; set++) {
            if ((set & 1) == 0) continue;
            boolean may = true;
            for (int[] two : party.pairs) may &= (set >> two[0] & 1) == (set >> two[1] & 1);
            for (int[] two : party.quarrels) may &= (set >> two[0] & 1) != (set >> two[1] & 1);
            int one = 0;
            int other = 0;
            for (int i = 0; i < n; i++) {
                if ((set >> i & 1) == 1) one += party.people.get(i).tall(); else other += party.people.get(i).tall();
            }
            if (may && (bestSet == NONE || Math.abs(one - other) < best)) {
                best = Math.abs(one - other);
                bestSet = set;
            }
        }
        return what == 0 ? best : what == 1 ? bestSet : NONE;
    }

    long let(int held, int fell, int one, int other, int what) {
        if (held < 0 || fell < 0 || (long) held + fell > 8) return NONE;
        if (one < 1 || one > 9 || other < 1 || other > 9) return NONE;
        Ratio plays = ONE;
        Ratio lets = ONE;
        for (int i = 0; i < held + fell; i++) {
            plays = plays.times(Ratio.of(i < held ? one : 10 - one, 10));
            lets = lets.times(Ratio.of(i < held ? other : 10 - other, 10));
        }
        return lets.by(lets.plus(plays)).part(what);
    }

    int evening(int seed, int what) {
        List<Integer> row = row();
        if (seed < 0 || seed > 9999 || row.isEmpty() || what < 0 || what > 3) return NONE;
        BigInteger g = BigInteger.valueOf(seed);
        int[] told = new int[4];
        int at = 0;
        for (; at < row.size() - 1 && told[1] < 200; told[1]++) {
            g = g.multiply(BigInteger.valueOf(1103515245)).add(BigInteger.valueOf(12345)).mod(BigInteger.ONE.shiftLeft(31));
            int draw = g.shiftRight(16).mod(BigInteger.TEN).intValue();
            told[0] += seconds(row.get(at), row.get(at + 1), state.fruit, state.pace);
            if (draw < chance(row.get(at), row.get(at + 1), state.fruit, state.pace)) {
                at++;
            } else {
                told[0] += party.pick;
                told[2]++;
                if (front()) at = 0;
            }
        }
        told[3] = row.get(at);
        return told[what];
    }

    @Override
    public String toString() {
        return "row " + row() + " state " + state + " marks " + marks.keySet() + " past " + Arrays.toString(new int[] {past.size()});
    }
}
