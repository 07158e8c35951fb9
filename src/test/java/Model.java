import java.math.BigInteger;
import java.util.ArrayDeque;
import java.util.ArrayList;
import java.util.Arrays;
import java.util.Deque;
import java.util.List;
import java.util.function.Predicate;
import java.util.regex.Matcher;
import java.util.regex.Pattern;

/**
 * The document once more, as plainly as the Java library lets it be said and by other means than the program:
 * texts by tokens, telling by lists, orders by trying them all. ModelTest compares the answers.
 */
final class Model {
    private static final int NONE = -1000000, BAD = -1000001, STATE = -1000002, FULL = -1000003;

    record Lie(char sort, int weight, int topic) { }

    record Stranger(int trust, int doubts, List<Integer> told, List<Integer> nodded) {
        Stranger withTrust(int t) {
            return new Stranger(t, doubts, told, nodded);
        }

        Stranger withDoubts(int d) {
            return new Stranger(trust, d, told, nodded);
        }
    }

    record Town(int stake, int purse, List<Lie> lies, List<Stranger> strangers) {
        Town with(int stranger, Stranger s, int newPurse) {
            List<Stranger> all = new ArrayList<>(strangers);
            all.set(stranger, s);
            return new Town(stake, newPurse, lies, all);
        }
    }

    private Town town = new Town(0, 0, List.of(), List.of());
    private final Deque<Town> past = new ArrayDeque<>();
    private final Town[] images = new Town[2];
    private final int[][] rows = new int[8][];
    private final int[] lanes = new int[8];
    private final StringBuilder tape = new StringBuilder();
    private int fault = 0;
    private int status = 0;
    private List<Integer> trace = new ArrayList<>();

    // ---- rows

    int row(int row, int lane, int n) {
        if (row < 0 || row > 7 || lane < 0 || lane > 2 || n > 40) return BAD;
        if (n < 0) return find(4);
        rows[row] = new int[n];
        lanes[row] = lane;
        return fine(n);
    }

    int set(int row, int i, int v) {
        if (row < 0 || row > 7) return BAD;
        if (rows[row] == null) return find(1);
        if (i < 0 || i >= rows[row].length) return find(2);
        int bits = new int[] {24, 16, 0}[lanes[row]];
        rows[row][i] = v << bits >> bits;
        return fine(rows[row][i]);
    }

    int copy(int a, int i, int b, int j, int n) {
        if (a < 0 || a > 7 || b < 0 || b > 7) return BAD;
        if (rows[a] == null || rows[b] == null) return find(1);
        if (lanes[a] != lanes[b]) return find(5);
        if (i < 0 || j < 0 || n < 0) return find(2);
        if ((long) i + n > rows[a].length || (long) j + n > rows[b].length) return find(2);
        int[] were = rows[a].clone();
        for (int t = 0; t < n; t++) rows[b][j + t] = were[i + t];
        return fine(n);
    }

    int drop(int row) {
        if (row < 0 || row > 7) return BAD;
        if (rows[row] == null) return find(1);
        int n = rows[row].length;
        rows[row] = null;
        return fine(n);
    }

    private int find(int finding) {
        status = finding;
        return -1000010 - finding;
    }

    private int fine(int answer) {
        status = 0;
        return answer;
    }

    // ---- towns, acts

    int feed(int letter) {
        if (letter < 0 || letter > 255) return BAD;
        if (tape.length() == 120) return FULL;
        tape.append((char) letter);
        return tape.length();
    }

    private static final Pattern TOKEN = Pattern.compile("[0-9]+|.", Pattern.DOTALL);

    int town() {
        String text = tape.toString();
        tape.setLength(0);
        List<String> tokens = new ArrayList<>();
        List<Integer> places = new ArrayList<>();
        Matcher m = TOKEN.matcher(text);
        while (m.find()) {
            tokens.add(m.group());
            places.add(m.start());
        }
        tokens.add("");
        places.add(text.length());
        int stake = 0;
        List<Lie> lies = new ArrayList<>();
        List<Stranger> strangers = new ArrayList<>();
        // What is being read: its letter and its numbers; and what may stand next (N a number, E the end).
        char part = 0;
        int first = 0;
        int second = 0;
        String expected = "T";
        for (int t = 0; t < tokens.size(); t++) {
            String token = tokens.get(t);
            int place = places.get(t);
            if (expected.startsWith("N")) {
                if (!token.matches("[0-9]{1,2}")) return faulty(1, place);
                int value = Integer.parseInt(token);
                boolean isFirst = !expected.contains("2");
                int least = part == 't' || part != 's' && isFirst ? 1 : 0;
                int most = part == 't' ? 9 : isFirst ? 20 : part == 's' ? 15 : 3;
                if (value < least || value > most) return faulty(2, place);
                if (isFirst) first = value;
                else second = value;
                expected = part == 't' || !isFirst ? ";" : ",";
            } else if (expected.equals(",") || expected.equals(";")) {
                if (!token.equals(expected)) return faulty(1, place);
                if (expected.equals(",")) {
                    expected = "N2";
                } else {
                    if (part == 't') stake = first;
                    else if (part == 's') strangers.add(new Stranger(first, second, List.of(), List.of()));
                    else lies.add(new Lie(part, first, second));
                    expected = strangers.isEmpty() ? "LSE" : "SE";
                }
            } else {
                if (token.isEmpty() && expected.contains("E")) break;
                if (token.length() != 1) return faulty(1, place);
                part = token.charAt(0);
                boolean isLie = "eahpl".indexOf(part) >= 0 && expected.contains("L");
                boolean isStranger = part == 's' && expected.contains("S");
                boolean isLaw = part == 't' && expected.equals("T");
                if (!isLie && !isStranger && !isLaw) return faulty(1, place);
                if (isLie && lies.size() == 6 || isStranger && strangers.size() == 4) return faulty(3, place);
                expected = "N1";
            }
        }
        town = new Town(stake, 0, lies, strangers);
        past.clear();
        return strangers.size();
    }

    private int faulty(int number, int place) {
        fault = number;
        return -1000100 - place;
    }

    int fault() {
        return fault;
    }

    private boolean noStranger(int s) {
        return s < 0 || s >= town.strangers.size();
    }

    private boolean noLie(int lie) {
        return lie < 0 || lie >= town.lies.size();
    }

    private int needOf(Stranger s, int number) {
        Lie lie = town.lies.get(number);
        int alike = 0;
        for (int n : s.nodded) if (town.lies.get(n).topic == lie.topic) alike++;
        int need = lie.weight;
        if (lie.sort == 'a') need *= 2;
        if (lie.sort == 'h') need = Math.max(0, need - 2 * alike);
        if (lie.sort == 'p' || lie.sort == 'l') need = alike > 0 ? 0 : need + 20;
        if (lie.sort == 'l' && s.told.size() < 2) need = 99;
        return (s.doubts & 1 << lie.topic) != 0 ? need + 3 : need;
    }

    private boolean would(Stranger s, int lie) {
        return s.trust >= needOf(s, lie);
    }

    private Stranger after(Stranger s, int lie, boolean nods) {
        List<Integer> told = new ArrayList<>(s.told);
        told.add(lie);
        List<Integer> nodded = new ArrayList<>(s.nodded);
        if (nods) nodded.add(lie);
        int trust = nods ? s.trust + 1 : s.trust - (town.lies.get(lie).weight / 4 + 1);
        return new Stranger(Math.min(20, Math.max(0, trust)), s.doubts, told, nodded);
    }

    private Stranger after(Stranger s, int lie) {
        return after(s, lie, would(s, lie));
    }

    private void act(Town next) {
        past.addLast(town);
        if (past.size() > 24) past.removeFirst();
        town = next;
    }

    int tell(int stranger, int lie) {
        if (noStranger(stranger) || noLie(lie)) return BAD;
        Stranger s = town.strangers.get(stranger);
        if (s.told.contains(lie)) return STATE;
        boolean nods = would(s, lie);
        act(town.with(stranger, after(s, lie), town.purse + (nods ? town.stake : -town.stake)));
        return nods ? 1 : 0;
    }

    int supper(int stranger) {
        if (noStranger(stranger)) return BAD;
        Stranger s = fed(town.strangers.get(stranger), 1);
        act(town.with(stranger, s, town.purse - 1));
        return s.trust;
    }

    private static Stranger fed(Stranger s, int suppers) {
        return s.withTrust(Math.min(20, s.trust + 2 * suppers));
    }

    int forget(int stranger, int lie) {
        if (noStranger(stranger) || noLie(lie)) return BAD;
        Stranger s = town.strangers.get(stranger);
        if (!s.told.contains(lie)) return STATE;
        List<Integer> told = new ArrayList<>(s.told);
        List<Integer> nodded = new ArrayList<>(s.nodded);
        told.remove(Integer.valueOf(lie));
        nodded.remove(Integer.valueOf(lie));
        act(town.with(stranger, new Stranger(s.trust, s.doubts, told, nodded), town.purse));
        return told.size();
    }

    int undo() {
        if (past.isEmpty()) return STATE;
        town = past.removeLast();
        return past.size();
    }

    int lie(int lie, int what) {
        if (noLie(lie) || what < 0 || what > 3) return BAD;
        Lie l = town.lies.get(lie);
        if (what < 2) return what == 0 ? l.weight : l.topic;
        return (int) town.strangers.stream().filter(s -> (what == 2 ? s.told : s.nodded).contains(lie)).count();
    }

    int stranger(int stranger, int what) {
        if (noStranger(stranger) || what < 0 || what > 3) return BAD;
        Stranger s = town.strangers.get(stranger);
        return what == 0 ? s.trust : what == 1 ? s.doubts : bits(what == 2 ? s.told : s.nodded);
    }

    private static int bits(List<Integer> numbers) {
        return numbers.stream().mapToInt(n -> 1 << n).reduce(0, (a, b) -> a | b);
    }

    int need(int stranger, int lie) {
        if (noStranger(stranger) || noLie(lie)) return BAD;
        return needOf(town.strangers.get(stranger), lie);
    }

    // ---- foretold

    private List<Integer> untold(Stranger s) {
        List<Integer> numbers = new ArrayList<>();
        for (int n = 0; n < town.lies.size(); n++) if (!s.told.contains(n)) numbers.add(n);
        return numbers;
    }

    /** All rows of so many of these numbers, by numbers. */
    private static List<List<Integer>> rowsOf(List<Integer> numbers, int length) {
        List<List<Integer>> all = new ArrayList<>();
        if (length == 0) {
            all.add(List.of());
            return all;
        }
        for (Integer n : numbers) {
            List<Integer> others = new ArrayList<>(numbers);
            others.remove(n);
            for (List<Integer> rest : rowsOf(others, length - 1)) {
                List<Integer> row = new ArrayList<>();
                row.add(n);
                row.addAll(rest);
                all.add(row);
            }
        }
        return all;
    }

    private int nodsIn(Stranger s, List<Integer> row) {
        int nods = 0;
        for (int lie : row) {
            nods += would(s, lie) ? 1 : 0;
            s = after(s, lie);
        }
        return nods;
    }

    private List<Integer> comesInRow(Stranger s, int lie) {
        List<Integer> others = untold(s);
        others.remove(Integer.valueOf(lie));
        for (int length = 0; length <= others.size(); length++) {
            for (List<Integer> row : rowsOf(others, length)) {
                Stranger then = s;
                for (int ahead : row) then = after(then, ahead);
                if (would(then, lie)) return row;
            }
        }
        return null;
    }

    private int bitsWhere(List<Integer> numbers, Predicate<Integer> holds) {
        return bits(numbers.stream().filter(holds).toList());
    }

    int nods(int stranger) {
        if (noStranger(stranger)) return BAD;
        Stranger s = town.strangers.get(stranger);
        return bitsWhere(untold(s), lie -> would(s, lie));
    }

    int order(int stranger, int lies, int k) {
        if (noStranger(stranger) || lies < 0 || lies >= 1 << town.lies.size() || k < -1 || k > 5) return BAD;
        Stranger s = town.strangers.get(stranger);
        List<Integer> numbers = new ArrayList<>();
        for (int n = 0; n < 6; n++) if ((lies & 1 << n) != 0) numbers.add(n);
        if (numbers.stream().anyMatch(s.told::contains)) return STATE;
        List<Integer> best = null;
        for (List<Integer> row : rowsOf(numbers, numbers.size())) {
            if (best == null || nodsIn(s, row) > nodsIn(s, best)) best = row;
        }
        if (k == -1) return nodsIn(s, best);
        return k < best.size() ? best.get(k) : NONE;
    }

    int comesIn(int stranger, int lie, int what) {
        if (noStranger(stranger) || noLie(lie) || what < 0 || what > 1) return BAD;
        Stranger s = town.strangers.get(stranger);
        if (s.told.contains(lie)) return STATE;
        List<Integer> row = comesInRow(s, lie);
        if (row == null) return NONE;
        return what == 0 ? row.size() : row.isEmpty() ? NONE : row.get(0);
    }

    int dead(int stranger) {
        if (noStranger(stranger)) return BAD;
        Stranger s = town.strangers.get(stranger);
        return bitsWhere(untold(s), lie -> comesInRow(s, lie) == null);
    }

    int help(int stranger, int what) {
        if (noStranger(stranger) || what < 0 || what > 1) return BAD;
        Stranger s = town.strangers.get(stranger);
        List<Integer> pairs = new ArrayList<>();
        for (int a : untold(s)) {
            for (int b : untold(s)) {
                boolean helps = !would(s, b) && would(after(s, a), b) || !would(s, a) && would(after(s, b), a);
                if (a < b && helps) pairs.add(10 * a + b);
            }
        }
        return what == 0 ? pairs.size() : pairs.stream().min(Integer::compare).orElse(NONE);
    }

    int suppers(int stranger, int lie) {
        if (noStranger(stranger) || noLie(lie)) return BAD;
        Stranger s = town.strangers.get(stranger);
        if (s.told.contains(lie)) return STATE;
        for (int n = 0; n <= 10; n++) if (would(fed(s, n), lie)) return n;
        return NONE;
    }

    /** 0, or what refuses the row. */
    private int refusal(int row, int i, int n) {
        if (rows[row] == null) return find(1);
        if (i < 0 || (long) i + 2 * n > rows[row].length) return find(2);
        for (int t = 0; t < n; t++) if (noLie(rows[row][i + 2 * t])) return BAD;
        return 0;
    }

    private boolean goesSo(Stranger s, int row, int i, int n) {
        for (int t = 0; t < n; t++) {
            int lie = rows[row][i + 2 * t];
            if (rows[row][i + 2 * t + 1] != (would(s, lie) ? 1 : 0)) return false;
            s = after(s, lie);
        }
        return true;
    }

    int doubted(int stranger, int row, int i, int n, int what) {
        if (noStranger(stranger) || row < 0 || row > 7 || n < 0 || n > 6 || what < 0 || what > 1) return BAD;
        int refusal = refusal(row, i, n);
        if (refusal != 0) return refusal;
        List<Integer> sets = new ArrayList<>();
        for (int d = 15; d >= 0; d--) {
            if (goesSo(town.strangers.get(stranger).withDoubts(d), row, i, n)) sets.add(0, d);
        }
        return fine(what == 0 ? sets.size() : sets.isEmpty() ? NONE : sets.get(0));
    }

    int trusted(int stranger, int row, int i, int n) {
        if (noStranger(stranger) || row < 0 || row > 7 || n < 0 || n > 6) return BAD;
        int refusal = refusal(row, i, n);
        if (refusal != 0) return refusal;
        List<Integer> trusts = new ArrayList<>();
        for (int t = 0; t <= 20; t++) {
            if (goesSo(town.strangers.get(stranger).withTrust(t), row, i, n)) trusts.add(t);
        }
        return fine(bits(trusts));
    }

    int who(int row, int i, int n) {
        if (town.stake == 0) return STATE;
        if (row < 0 || row > 7 || n < 0 || n > 6) return BAD;
        int refusal = refusal(row, i, n);
        if (refusal != 0) return refusal;
        List<Integer> who = new ArrayList<>();
        for (int s = 0; s < town.strangers.size(); s++) if (goesSo(town.strangers.get(s), row, i, n)) who.add(s);
        return fine(bits(who));
    }

    int odds(int stranger, int row, int i, int n, int k, int c, int what) {
        if (noStranger(stranger) || row < 0 || row > 7 || n < 0 || n > 6) return BAD;
        if (k < 0 || k > 6 || c < 0 || c > 10 || what < 0 || what > 1) return BAD;
        int refusal = refusal(row, i, n);
        if (refusal != 0) return refusal;
        // Every row of slips, with its weight in parts of 10 to the n.
        BigInteger above = BigInteger.ZERO;
        for (int slips = 0; slips < 1 << n; slips++) {
            BigInteger weight = BigInteger.ONE;
            Stranger s = town.strangers.get(stranger);
            int nods = 0;
            for (int t = 0; t < n; t++) {
                int lie = rows[row][i + 2 * t];
                boolean slip = (slips >> t & 1) != 0;
                boolean would = would(s, lie);
                weight = weight.multiply(BigInteger.valueOf(slip ? c : 10 - c));
                nods += would && !slip ? 1 : 0;
                s = after(s, lie, would && !slip);
            }
            if (nods >= k) above = above.add(weight);
        }
        BigInteger below = BigInteger.TEN.pow(n);
        BigInteger common = above.gcd(below);
        return fine((what == 0 ? above : below).divide(common).intValueExact());
    }

    int image(int k) {
        if (k < 0 || k > 1) return BAD;
        if (town.stake == 0) return STATE;
        images[k] = town;
        return 1;
    }

    int restore(int k) {
        if (k < 0 || k > 1) return BAD;
        if (images[k] == null) return STATE;
        town = images[k];
        past.clear();
        return 1;
    }

    // ---- asked

    /** The kinds as classes: what is asked goes by Java's own overriding. */
    private class AnyLie {
        final int number;

        AnyLie(int number) {
            this.number = number;
        }

        int size() {
            trace.add(10);
            return town.lies.get(number).weight;
        }

        int mark() {
            trace.add(20);
            return number;
        }
    }

    private class Easy extends AnyLie {
        Easy(int number) {
            super(number);
        }

        @Override int size() {
            trace.add(11);
            return super.size() + mark();
        }

        @Override int mark() {
            trace.add(21);
            return super.mark() + lie(number, 3);
        }
    }

    private final class Absurd extends Easy {
        Absurd(int number) {
            super(number);
        }

        @Override int size() {
            trace.add(12);
            return 0 - super.size();
        }

        @Override int mark() {
            trace.add(24);
            return super.mark() * 2;
        }
    }

    private final class Habit extends Easy {
        Habit(int number) {
            super(number);
        }

        @Override int mark() {
            trace.add(22);
            return super.mark() - 1000;
        }
    }

    private class Proof extends AnyLie {
        Proof(int number) {
            super(number);
        }

        @Override int size() {
            trace.add(13);
            return super.size() - 100;
        }

        @Override int mark() {
            trace.add(23);
            return super.mark() - size();
        }
    }

    private final class Lame extends Proof {
        Lame(int number) {
            super(number);
        }

        @Override int size() {
            trace.add(14);
            return super.size() * 2;
        }
    }

    private AnyLie made(int lie) {
        switch (town.lies.get(lie).sort) {
            case 'e': return new Easy(lie);
            case 'a': return new Absurd(lie);
            case 'h': return new Habit(lie);
            case 'p': return new Proof(lie);
            default: return new Lame(lie);
        }
    }

    private static final List<Class<?>> KINDS =
            Arrays.asList(AnyLie.class, Easy.class, Absurd.class, Habit.class, Proof.class, Lame.class);

    int kind(int lie) {
        return noLie(lie) ? BAD : KINDS.indexOf(made(lie).getClass());
    }

    int as(int lie, int kind) {
        if (noLie(lie) || kind < 0 || kind > 5) return BAD;
        return KINDS.get(kind).isInstance(made(lie)) ? fine(lie) : find(3);
    }

    int ask(int lie, int what) {
        if (noLie(lie) || what < 0 || what > 1) return BAD;
        trace = new ArrayList<>();
        return what == 0 ? made(lie).size() : made(lie).mark();
    }

    int trace(int i) {
        return i >= 0 && i < trace.size() && i < 16 ? trace.get(i) : NONE;
    }

    int count(int what) {
        switch (what) {
            case 0: return (int) Arrays.stream(rows).filter(r -> r != null).count();
            case 1: return town.lies.size();
            case 2: return town.strangers.size();
            case 3: return town.stake;
            case 4: return town.purse;
            case 5: return past.size();
            case 6: return tape.length();
            default: return BAD;
        }
    }

    int status() {
        return status;
    }
}
