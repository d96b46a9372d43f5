import java.util.ArrayDeque;
import java.util.ArrayList;
import java.util.Arrays;
import java.util.HashMap;
import java.util.List;
import java.util.Map;
import java.util.TreeMap;
import java.util.TreeSet;
import java.util.function.IntBinaryOperator;

/**
 * The document written a second time, as plainly as the whole Java library lets it be: trees
 * instead of code, deep copies instead of a log, every OIL and every set looked at. ModelTest
 * holds the class against it.
 */
final class Model {
    static final int NOTHING = -100000000;

    /** A SUM or a TEST that is BROKEN. */
    static final class Broken extends RuntimeException {
        private static final long serialVersionUID = 1L;

        Broken() {
            super(null, null, false, false);
        }
    }

    static final class Fault extends RuntimeException {
        private static final long serialVersionUID = 1L;
        final int place;

        Fault(int place) {
            super(null, null, false, false);
            this.place = place;
        }
    }

    interface Values {
        int of(String word, int number);
    }

    interface Sum {
        long in(Values values);
    }

    interface Test {
        boolean in(Values values);
    }

    record Clause(String kind, Sum one, Sum other, int times, Test test) { }

    record Hand(int lay, int debt, int joined, boolean aboard) { }

    record Ground(int whales, int one, int two, int three) {
        int odds(int taken) {
            return taken == 1 ? one : taken == 2 ? two : taken == 3 ? three : 10 - one - two - three;
        }

        boolean canBe() {
            return in(whales, 0, 99) && in(one, 0, 10) && in(two, 0, 10) && in(three, 0, 10)
                && one + two + three <= 10;
        }
    }

    record Word(int hand, int pence) { }

    record Token(String text, int place) {
        boolean isNumber() {
            return text.matches("[0-9]+");
        }
    }

    static final class State {
        List<Hand> hands = new ArrayList<>();
        List<Ground> grounds = new ArrayList<>();
        List<Word> words = new ArrayList<>();
        List<List<Clause>> laws = new ArrayList<>();
        int oil;
        int purse;
        int[] prices = {10, 10, 10, 10, 10, 10};
        int month;
        int hold = 200;
        int mood;
        int force = -1;

        State copy() {
            State s = new State();
            s.hands = new ArrayList<>(hands);
            s.grounds = new ArrayList<>(grounds);
            s.words = new ArrayList<>(words);
            s.laws = new ArrayList<>(laws);
            s.oil = oil;
            s.purse = purse;
            s.prices = prices.clone();
            s.month = month;
            s.hold = hold;
            s.mood = mood;
            s.force = force;
            return s;
        }

        int crew() {
            return (int) hands.stream().filter(Hand::aboard).count();
        }

        int price() {
            return prices[month / 12];
        }

        int money() {
            return purse + oil * price();
        }
    }

    record Undo(int kind, State before) { }

    State s = new State();
    final State[] images = new State[2];
    State drawn;
    ArrayDeque<Undo> undos = new ArrayDeque<>();
    String tape = "";
    int fault = -1;
    int stopped = -1;
    int spray;
    int status;
    final Map<Integer, Integer> refused = new HashMap<>();

    static boolean in(int n, int from, int to) {
        return n >= from && n <= to;
    }

    int refuse(int by) {
        status = by;
        refused.merge(by, 1, Integer::sum);
        return by;
    }

    int ok(int told) {
        status = 0;
        return told;
    }

    // ---- reading ----

    static List<Token> tokens(String text) {
        List<Token> tokens = new ArrayList<>();
        java.util.regex.Matcher m = java.util.regex.Pattern.compile("[a-z]+|[0-9]+|[^ ]", java.util.regex.Pattern.DOTALL).matcher(text);
        while (m.find()) {
            tokens.add(new Token(m.group(), m.start()));
        }
        tokens.add(new Token("", text.length()));
        return tokens;
    }

    static final List<String> LAW_WORDS =
        List.of("hand", "lay", "debt", "served", "ground", "whales", "oil", "crew", "month", "mood");
    static final List<String> ORDER_WORDS = List.of("month", "done", "gone", "oil", "purse");

    static final class Parser {
        final List<Token> tokens;
        final boolean law;
        int at;
        int parts;

        Parser(String text, boolean law) {
            this.tokens = tokens(text);
            this.law = law;
        }

        Token peek() {
            return tokens.get(at);
        }

        boolean is(String text) {
            return peek().text.equals(text);
        }

        boolean took(String text) {
            if (is(text)) {
                at++;
                return true;
            }
            return false;
        }

        Fault fault() {
            return new Fault(peek().place);
        }

        void need(String text) {
            if (!took(text)) {
                throw fault();
            }
        }

        List<Clause> text() {
            List<Clause> clauses = new ArrayList<>();
            do {
                if (clauses.size() == 12) {
                    throw fault();
                }
                clauses.add(clause());
            } while (took(";"));
            if (!is("")) {
                throw fault();
            }
            return clauses;
        }

        Clause clause() {
            String kind = peek().text;
            List<String> kinds = law ? List.of("casks", "eats", "deserts") : List.of("hunt", "sell", "advance", "leave");
            if (!kinds.contains(kind)) {
                throw fault();
            }
            at++;
            Sum one = kind.equals("deserts") ? null : sum(0);
            Sum other = null;
            if (kind.equals("hunt")) {
                need("for");
                other = sum(0);
            }
            if (kind.equals("advance")) {
                need("by");
                other = sum(0);
            }
            int times = 1;
            if (!law && took("times")) {
                times = number(1, 20);
            }
            Test test = took("if") ? test(0) : null;
            return new Clause(kind, one, other, times, test);
        }

        int number(int from, int to) {
            if (!peek().isNumber()) {
                throw fault();
            }
            java.math.BigInteger n = new java.math.BigInteger(peek().text);
            if (n.bitLength() > 20 || !in(n.intValue(), from, to)) {
                throw fault();
            }
            at++;
            return n.intValue();
        }

        Test test(int depth) {
            Test left = both(depth);
            if (!took("or")) {
                return left;
            }
            List<Test> tests = new ArrayList<>(List.of(left));
            do {
                tests.add(both(depth));
            } while (took("or"));
            return v -> tests.stream().anyMatch(t -> t.in(v));
        }

        Test both(int depth) {
            Test left = plain(depth);
            if (!took("and")) {
                return left;
            }
            List<Test> tests = new ArrayList<>(List.of(left));
            do {
                tests.add(plain(depth));
            } while (took("and"));
            return v -> tests.stream().allMatch(t -> t.in(v));
        }

        Test plain(int depth) {
            if (took("not")) {
                Test inner = plain(depth);
                return v -> !inner.in(v);
            }
            if (is("(")) {
                if (depth == 8) {
                    throw fault();
                }
                at++;
                Test inner = test(depth + 1);
                need(")");
                return inner;
            }
            Sum left = sum(depth);
            String how = peek().text;
            if (!how.matches("[<>=]")) {
                throw fault();
            }
            at++;
            Sum right = sum(depth);
            return v -> {
                int order = Long.compare(left.in(v), right.in(v));
                return how.equals("<") ? order < 0 : how.equals(">") ? order > 0 : order == 0;
            };
        }

        Sum sum(int depth) {
            Sum left = term(depth);
            while (is("+") || is("-")) {
                left = joined(left, tokens.get(at++).text, term(depth));
            }
            return left;
        }

        Sum term(int depth) {
            Sum left = part(depth);
            while (is("*") || is("/") || is("%")) {
                left = joined(left, tokens.get(at++).text, part(depth));
            }
            return left;
        }

        static Sum joined(Sum left, String how, Sum right) {
            return v -> {
                long a = left.in(v);
                long b = right.in(v);
                if ("/%".contains(how) && b == 0) {
                    throw new Broken();
                }
                long c = switch (how) {
                    case "+" -> a + b;
                    case "-" -> a - b;
                    case "*" -> a * b;
                    case "/" -> a / b;
                    default -> a - a / b * b;
                };
                if (Math.abs(c) > 1000000000L) {
                    throw new Broken();
                }
                return c;
            };
        }

        Sum part(int depth) {
            if (is("[")) {
                if (depth == 8) {
                    throw fault();
                }
                at++;
                Sum inner = sum(depth + 1);
                need("]");
                return inner;
            }
            if (parts == 50) {
                throw fault();
            }
            parts++;
            if (peek().isNumber()) {
                int n = number(0, 1000);
                return v -> n;
            }
            String word = peek().text;
            if ((law ? LAW_WORDS : ORDER_WORDS).contains(word)) {
                at++;
                return v -> v.of(word, 0);
            }
            if (!law && (took("debt") || took("whales"))) {
                int n = number(0, word.equals("debt") ? 7 : 3);
                return v -> v.of(word, n);
            }
            throw fault();
        }
    }

    // ---- laws ----

    static Integer told(State s, String kind, Values values) {
        Integer told = null;
        if (s.force < 0) {
            return null;
        }
        for (Clause c : s.laws.get(s.force)) {
            if (c.kind.equals(kind)) {
                try {
                    if (c.test == null || c.test.in(values)) {
                        told = c.one == null ? 1 : (int) c.one.in(values);
                    }
                } catch (Broken b) {
                    continue;
                }
            }
        }
        return told;
    }

    static int shipWord(State s, String word, int crew) {
        return switch (word) {
            case "oil" -> s.oil;
            case "crew" -> crew;
            case "month" -> s.month;
            case "mood" -> s.mood;
            default -> -1;
        };
    }

    static int casks(State s, int g, int crew) {
        Integer told = told(s, "casks", (word, n) -> switch (word) {
            case "ground" -> g;
            case "whales" -> s.grounds.get(g).whales;
            default -> shipWord(s, word, crew);
        });
        return told == null ? 20 : Math.max(1, Math.min(99, told));
    }

    static Values asked(State s, int h, int lay, int crew) {
        Hand hand = s.hands.get(h);
        return (word, n) -> switch (word) {
            case "hand" -> h;
            case "lay" -> lay;
            case "debt" -> hand.debt;
            case "served" -> s.month - hand.joined;
            default -> shipWord(s, word, crew);
        };
    }

    static int eats(State s, int h) {
        Integer told = told(s, "eats", asked(s, h, s.hands.get(h).lay, s.crew()));
        return told == null ? 5 : Math.max(0, Math.min(99, told));
    }

    static boolean deserts(State s, int h, int lay, int crew) {
        return told(s, "deserts", asked(s, h, lay, crew)) != null;
    }

    // ---- acts; each answers on a copy, so that nothing is half done ----

    static int huntOn(State s, int g, int whales) {
        if (!in(whales, 0, 3)) {
            return -1;
        }
        if (!in(g, 0, s.grounds.size() - 1)) {
            return -2;
        }
        if (s.crew() == 0 || s.month >= 71 || whales > s.grounds.get(g).whales) {
            return -3;
        }
        State was = s.copy();
        s.oil = Math.min(s.hold, was.oil + casks(was, g, was.crew()) * whales);
        Ground old = was.grounds.get(g);
        s.grounds.set(g, new Ground(old.whales - whales, old.one, old.two, old.three));
        for (int h = 0; h < s.hands.size(); h++) {
            Hand x = was.hands.get(h);
            if (x.aboard) {
                s.hands.set(h, new Hand(x.lay, Math.min(9999, x.debt + eats(was, h)), x.joined, true));
            }
        }
        s.month++;
        State then = s.copy();
        int gone = 0;
        for (int h = 0; h < s.hands.size(); h++) {
            Hand x = then.hands.get(h);
            if (x.aboard && deserts(then, h, x.lay, then.crew())) {
                s.hands.set(h, new Hand(x.lay, x.debt, x.joined, false));
                gone++;
            }
        }
        return gone;
    }

    static int sellOn(State s, int casks) {
        if (!in(casks, 1, 999)) {
            return -1;
        }
        if (casks > s.oil) {
            return -3;
        }
        s.oil -= casks;
        s.purse = Math.min(999999, s.purse + casks * s.price());
        return s.purse;
    }

    static int advanceOn(State s, int h, int pence) {
        if (!in(pence, 1, 9999)) {
            return -1;
        }
        if (!in(h, 0, s.hands.size() - 1)) {
            return -2;
        }
        Hand x = s.hands.get(h);
        if (!x.aboard || pence > s.purse) {
            return -3;
        }
        s.purse -= pence;
        s.hands.set(h, new Hand(x.lay, Math.min(9999, x.debt + pence), x.joined, true));
        return s.hands.get(h).debt;
    }

    static int leaveOn(State s, int h) {
        if (!in(h, 0, s.hands.size() - 1)) {
            return -2;
        }
        Hand x = s.hands.get(h);
        if (!x.aboard) {
            return -3;
        }
        s.hands.set(h, new Hand(x.lay, x.debt, x.joined, false));
        return s.crew();
    }

    int act(int kind, int a, int b) {
        State before = s.copy();
        int told = switch (kind) {
            case 0 -> huntOn(s, a, b);
            case 1 -> sellOn(s, a);
            case 2 -> advanceOn(s, a, b);
            default -> leaveOn(s, a);
        };
        if (told >= 0) {
            undos.push(new Undo(kind, before));
            if (undos.size() > 16) {
                undos.removeLast();
            }
        }
        return told;
    }

    int called(int kind, int a, int b) {
        int told = act(kind, a, b);
        return told < 0 ? refuse(told) : ok(told);
    }

    // ---- the face ----

    int sign(int lay, int debt) {
        if (!in(lay, 1, 999) || !in(debt, 0, 9999)) {
            return refuse(-1);
        }
        if (s.hands.size() == 8) {
            return refuse(-5);
        }
        undos.clear();
        s.hands.add(new Hand(lay, debt, s.month, true));
        return ok(s.hands.size() - 1);
    }

    int of(int h, int what) {
        if (!in(h, 0, s.hands.size() - 1)) {
            return NOTHING;
        }
        Hand x = s.hands.get(h);
        int whole = x.aboard ? s.money() / x.lay : 0;
        return switch (what) {
            case 0 -> x.lay;
            case 1 -> x.debt;
            case 2 -> x.joined;
            case 3 -> x.aboard ? 1 : 0;
            case 4 -> eats(s, h);
            case 5 -> deserts(s, h, x.lay, s.crew()) ? 1 : 0;
            case 6 -> whole;
            case 7 -> x.aboard ? whole - x.debt : 0;
            default -> NOTHING;
        };
    }

    int ground(int whales, int one, int two, int three) {
        Ground g = new Ground(whales, one, two, three);
        if (!g.canBe()) {
            return refuse(-1);
        }
        if (s.grounds.size() == 4) {
            return refuse(-5);
        }
        undos.clear();
        s.grounds.add(g);
        return ok(s.grounds.size() - 1);
    }

    int at(int g, int what) {
        if (!in(g, 0, s.grounds.size() - 1)) {
            return -1;
        }
        Ground x = s.grounds.get(g);
        return switch (what) {
            case 0 -> x.whales;
            case 1 -> x.one;
            case 2 -> x.two;
            case 3 -> x.three;
            case 4 -> casks(s, g, s.crew());
            default -> -1;
        };
    }

    int price(int year, int pence) {
        if (!in(year, 0, 5) || !in(pence, 0, 99)) {
            return refuse(-1);
        }
        int was = s.prices[year];
        s.prices[year] = pence;
        return ok(was);
    }

    int terms(int what, int value) {
        int was;
        if (what == 0 && in(value, 0, 71)) {
            was = s.month;
            s.month = value;
        } else if (what == 1 && in(value, Math.max(1, s.oil), 999)) {
            was = s.hold;
            s.hold = value;
        } else if (what == 2 && in(value, 0, 9)) {
            was = s.mood;
            s.mood = value;
        } else {
            return refuse(-1);
        }
        undos.clear();
        return ok(was);
    }

    int feed(int a, int b, int c, int d, int e) {
        if (tape.length() + 20 > 400) {
            return -1;
        }
        for (int n : new int[] {a, b, c, d, e}) {
            tape += "" + (char) (n >>> 24) + (char) (n >>> 16 & 255) + (char) (n >>> 8 & 255) + (char) (n & 255);
        }
        return tape.length();
    }

    int end(int n) {
        if (!in(n, 0, tape.length())) {
            return -1;
        }
        tape = tape.substring(0, n);
        return n;
    }

    int row() {
        if (tape.isEmpty()) {
            return refuse(-6);
        }
        int came = 0;
        spray = 0;
        for (int i = 0; i < tape.length(); i += 4) {
            Ground g = i + 4 > tape.length() ? null
                : new Ground(tape.charAt(i), tape.charAt(i + 1), tape.charAt(i + 2), tape.charAt(i + 3));
            if (g != null && g.canBe() && s.grounds.size() < 4) {
                s.grounds.add(g);
                came++;
            } else {
                spray++;
            }
        }
        tape = "";
        undos.clear();
        return ok(came);
    }

    List<Clause> parsed(boolean law) {
        String text = tape;
        tape = "";
        fault = -1;
        try {
            return new Parser(text, law).text();
        } catch (Fault f) {
            fault = f.place;
            return null;
        }
    }

    int law() {
        if (s.laws.size() == 6) {
            tape = "";
            return refuse(-5);
        }
        List<Clause> law = parsed(true);
        if (law == null) {
            return refuse(-6);
        }
        s.laws.add(law);
        return ok(s.laws.size() - 1);
    }

    int orders() {
        stopped = -1;
        List<Clause> clauses = parsed(false);
        if (clauses == null) {
            return refuse(-6);
        }
        State before = s.copy();
        ArrayDeque<Undo> undosBefore = new ArrayDeque<>(undos);
        int[] counts = {0, -1};
        Values values = (word, n) -> switch (word) {
            case "month" -> s.month;
            case "done" -> counts[0];
            case "gone" -> counts[1];
            case "oil" -> s.oil;
            case "purse" -> s.purse;
            case "debt" -> n < s.hands.size() ? s.hands.get(n).debt : -1;
            default -> n < s.grounds.size() ? s.grounds.get(n).whales : -1;
        };
        for (int i = 0; i < clauses.size(); i++) {
            for (int t = 0; t < clauses.get(i).times; t++) {
                if (!ran(clauses.get(i), values, counts)) {
                    s = before;
                    undos = undosBefore;
                    stopped = i;
                    return refuse(-3);
                }
            }
        }
        return ok(counts[0]);
    }

    /** Whether it could be, or need not. */
    boolean ran(Clause c, Values values, int[] counts) {
        try {
            if (c.test != null && !c.test.in(values)) {
                return true;
            }
        } catch (Broken b) {
            return true;
        }
        int told;
        int kind = List.of("hunt", "sell", "advance", "leave").indexOf(c.kind);
        try {
            int one = (int) c.one.in(values);
            int other = c.other == null ? 0 : (int) c.other.in(values);
            told = act(kind, one, other);
        } catch (Broken b) {
            return false;
        }
        if (told < 0) {
            return false;
        }
        counts[0]++;
        if (kind == 0) {
            counts[1] = told;
        }
        return true;
    }

    int force(int law) {
        if (law != -1 && !in(law, 0, s.laws.size() - 1)) {
            return refuse(-2);
        }
        int was = s.force;
        s.force = law;
        return ok(was);
    }

    int undo() {
        if (undos.isEmpty()) {
            return refuse(-3);
        }
        Undo u = undos.pop();
        s.hands = u.before.hands;
        s.grounds = u.before.grounds;
        s.oil = u.before.oil;
        s.purse = u.before.purse;
        s.month = u.before.month;
        return ok(u.kind);
    }

    int money(int what) {
        int owner = s.money();
        for (int h = 0; h < s.hands.size(); h++) {
            owner -= of(h, 6);
        }
        return what == 0 ? s.money() : what == 1 ? owner : NOTHING;
    }

    long parts() {
        return s.hands.stream().filter(Hand::aboard).mapToLong(h -> 1000000000000L / h.lay).sum();
    }

    long best(int n, int what) {
        if (!in(n, 0, 12) || !in(what, 0, 1)) {
            return -1;
        }
        Map<String, long[]> known = new HashMap<>();
        return bestFrom(s.month, n, s.oil, known)[what];
    }

    /** How much, the choice. */
    long[] bestFrom(int month, int left, int oil, Map<String, long[]> known) {
        String key = month + " " + oil;
        if (known.containsKey(key)) {
            return known.get(key);
        }
        long[] best = {(long) oil * s.prices[month / 12] * 1000000, 100};
        if (left > 0 && month < 71) {
            for (int g = 0; g < s.grounds.size(); g++) {
                int each = casks(s, g, s.crew());
                long sum = 0;
                for (int taken = 0; taken <= 3; taken++) {
                    int then = Math.min(s.hold, oil + taken * each);
                    sum += s.grounds.get(g).odds(taken) * bestFrom(month + 1, left - 1, then, known)[0];
                }
                if (sum / 10 > best[0]) {
                    best = new long[] {sum / 10, g};
                }
            }
        }
        known.put(key, best);
        return best;
    }

    long odds(int g, int n, int oil) {
        if (!in(g, 0, s.grounds.size() - 1) || !in(n, 0, 24) || !in(oil, 0, 999)) {
            return -1;
        }
        int each = casks(s, g, s.crew());
        TreeMap<Integer, Long> now = new TreeMap<>(Map.of(s.oil, 1000000000000L));
        for (int i = 0; i < n; i++) {
            TreeMap<Integer, Long> then = new TreeMap<>();
            now.forEach((o, p) -> {
                for (int taken = 0; taken <= 3; taken++) {
                    then.merge(Math.min(s.hold, o + taken * each), p * s.grounds.get(g).odds(taken) / 10, Long::sum);
                }
            });
            now = then;
        }
        return now.tailMap(oil).values().stream().mapToLong(p -> p).sum();
    }

    int left(int what) {
        TreeSet<Integer> on = new TreeSet<>();
        for (int h = 0; h < s.hands.size(); h++) {
            if (s.hands.get(h).aboard) {
                on.add(h);
            }
        }
        int rounds = 0;
        int before;
        do {
            before = on.size();
            rounds++;
            for (int h : new ArrayList<>(on)) {
                if (deserts(s, h, s.hands.get(h).lay, on.size())) {
                    on.remove(h);
                }
            }
        } while (on.size() < before);
        return what == 0 ? on.stream().mapToInt(h -> 1 << h).sum() : what == 1 ? rounds : -1;
    }

    int least(int h) {
        int greatest = -1;
        if (in(h, 0, s.hands.size() - 1) && s.hands.get(h).aboard) {
            for (int lay = 1; lay <= 999; lay++) {
                greatest = deserts(s, h, lay, s.crew()) ? greatest : lay;
            }
        }
        return greatest;
    }

    long crew(int g, int wanted, int what) {
        if (!in(g, 0, s.grounds.size() - 1) || !in(wanted, 1, 99) || !in(what, 0, 1)) {
            return -1;
        }
        long[] best = null;
        for (int set = 1; set < 256; set++) {
            long sum = 0;
            boolean can = true;
            for (int h = 0; h < 8; h++) {
                if ((set >> h & 1) == 1) {
                    can = can && h < s.hands.size() && s.hands.get(h).aboard;
                    sum += can ? 1000000000000L / s.hands.get(h).lay : 0;
                }
            }
            if (can && casks(s, g, Integer.bitCount(set)) >= wanted && (best == null || sum < best[1])) {
                best = new long[] {set, sum};
            }
        }
        return best == null ? -1 : best[what];
    }

    int word(int h, int pence) {
        if (!in(pence, 0, 999999)) {
            return refuse(-1);
        }
        if (!in(h, 0, s.hands.size() - 1)) {
            return refuse(-2);
        }
        if (s.words.size() == 8) {
            return refuse(-5);
        }
        s.words.add(new Word(h, pence));
        return ok(s.words.size());
    }

    int forget() {
        int were = s.words.size();
        s.words.clear();
        return were;
    }

    List<Integer> oils() {
        List<Integer> oils = new ArrayList<>();
        for (int o = 0; o <= s.hold; o++) {
            int money = s.purse + o * s.price();
            if (s.words.stream().allMatch(w -> money / s.hands.get(w.hand).lay == w.pence)) {
                oils.add(o);
            }
        }
        return oils;
    }

    int barrels(int what) {
        List<Integer> oils = oils();
        if (what == 0) {
            return oils.size();
        }
        if (oils.isEmpty() || !in(what, 1, 2)) {
            return -1;
        }
        return what == 1 ? oils.get(0) : oils.get(oils.size() - 1);
    }

    int ask(int what) {
        List<Integer> oils = oils();
        if (oils.isEmpty() || s.hands.isEmpty() || !in(what, 0, 1)) {
            return -1;
        }
        int[] best = {-1, 100000};
        for (int h = 0; h < s.hands.size(); h++) {
            Map<Integer, Integer> alike = new HashMap<>();
            for (int o : oils) {
                alike.merge((s.purse + o * s.price()) / s.hands.get(h).lay, 1, Integer::sum);
            }
            int most = alike.values().stream().max(Integer::compare).get();
            if (most < best[1]) {
                best = new int[] {h, most};
            }
        }
        return best[what];
    }

    int years(int seed, int n) {
        if (!in(seed, 0, 1000000) || !in(n, 1, 60)) {
            return refuse(-1);
        }
        if (s.grounds.isEmpty()) {
            return refuse(-3);
        }
        drawn = s.copy();
        long[] x = {seed};
        IntBinaryOperator draw = (m, unused) -> {
            x[0] = (x[0] * 1103 + 12345) % 1000003;
            return (int) (x[0] % m);
        };
        int gone = 0;
        for (int i = 0; i < n && drawn.month < 71 && drawn.crew() > 0; i++) {
            int g = draw.applyAsInt(drawn.grounds.size(), 0);
            int d = draw.applyAsInt(10, 0);
            Ground x2 = drawn.grounds.get(g);
            int taken = d < x2.three ? 3 : d < x2.three + x2.two ? 2 : d < x2.three + x2.two + x2.one ? 1 : 0;
            gone += huntOn(drawn, g, Math.min(taken, x2.whales));
        }
        return ok(gone);
    }

    int drawn(int k, int what) {
        if (drawn == null) {
            return -1;
        }
        return switch (what) {
            case 0 -> drawn.oil;
            case 1 -> drawn.month;
            case 2 -> in(k, 0, drawn.grounds.size() - 1) ? drawn.grounds.get(k).whales : -1;
            case 3 -> in(k, 0, drawn.hands.size() - 1) ? drawn.hands.get(k).debt : -1;
            default -> -1;
        };
    }

    int image(int k) {
        if (!in(k, 0, 1)) {
            return refuse(-1);
        }
        images[k] = s.copy();
        return ok(0);
    }

    int back(int k) {
        if (!in(k, 0, 1)) {
            return refuse(-1);
        }
        if (images[k] == null) {
            return refuse(-2);
        }
        s = images[k].copy();
        undos.clear();
        return ok(0);
    }

    int count(int what) {
        List<Integer> all = new ArrayList<>(Arrays.asList(s.hands.size(), s.crew(), s.grounds.size(), s.words.size(),
            s.laws.size(), undos.size(), tape.length()));
        for (int by : new int[] {-1, -2, -3, -5, -6}) {
            all.add(refused.getOrDefault(by, 0));
        }
        all.addAll(Arrays.asList(s.force, s.oil, s.purse, s.month, s.hold, s.mood));
        for (int p : s.prices) {
            all.add(p);
        }
        return in(what, 0, all.size() - 1) ? all.get(what) : -1;
    }
}
