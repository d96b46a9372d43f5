import java.util.ArrayList;
import java.util.List;
import java.util.Random;

/** Runs of random calls, each asked of the class and of the Model. */
public final class ModelTest {
    private static final int RUNS = 1500;
    private static final int CALLS = 250;
    private final Random random;
    private final WhaleLays ship = new WhaleLays();
    private final Model model = new Model();
    private final List<String> told = new ArrayList<>();
    private boolean wrong;

    private ModelTest(long seed) {
        random = new Random(seed);
    }

    public static void main(String[] args) {
        long first = args.length > 0 ? Long.parseLong(args[0]) : 1;
        long runs = args.length > 1 ? Long.parseLong(args[1]) : RUNS;
        long faults = 0;
        for (long seed = first; seed < first + runs; seed++) {
            ModelTest test = new ModelTest(seed);
            for (int i = 0; i < CALLS && !test.wrong; i++) {
                test.step();
                test.look();
            }
            if (test.wrong) {
                faults++;
                System.out.println("seed " + seed + ":");
                test.told.forEach(line -> System.out.println("  " + line));
                if (faults == 3) {
                    break;
                }
            }
        }
        System.out.println("ModelTest: " + runs + " runs, " + faults + " not as the model");
        System.exit(faults == 0 ? 0 : 1);
    }

    private void same(String call, long got, long want) {
        told.add(call + " -> " + got + (got == want ? "" : ", the model says " + want));
        wrong = wrong || got != want;
    }

    /** Compared behind each call, but told only if it differs. */
    private void look() {
        for (int what = -1; what <= 24; what++) {
            quiet("count(" + what + ")", ship.count(what), model.count(what));
        }
        quiet("status()", ship.status(), model.status);
        quiet("fault()", ship.fault(), model.fault);
        quiet("stopped()", ship.stopped(), model.stopped);
        quiet("spray()", ship.spray(), model.spray);
        for (int h = 0; h < 8; h++) {
            for (int what = 0; what < 8; what++) {
                quiet("of(" + h + ", " + what + ")", ship.of(h, what), model.of(h, what));
            }
        }
        for (int g = 0; g < 4; g++) {
            for (int what = 0; what < 5; what++) {
                quiet("at(" + g + ", " + what + ")", ship.at(g, what), model.at(g, what));
            }
        }
    }

    private void quiet(String call, long got, long want) {
        if (got != want) {
            same(call, got, want);
        }
    }

    /** Mostly from .. to, seldom just beyond, more seldom anything. */
    private int near(int from, int to) {
        int dice = random.nextInt(60);
        if (dice == 0) {
            return random.nextBoolean() ? from - 1 : to + 1;
        }
        if (dice == 1) {
            return random.nextInt();
        }
        if (dice == 2) {
            return random.nextBoolean() ? from : to;
        }
        return from + random.nextInt(to - from + 1);
    }

    private int few(int most) {
        return near(0, random.nextInt(4) == 0 ? most : Math.min(most, 20));
    }

    private void step() {
        switch (random.nextInt(34)) {
            case 0, 1 -> {
                int lay = random.nextBoolean() ? near(1, 60) : near(1, 999);
                int debt = random.nextBoolean() ? near(0, 50) : near(0, 9999);
                same("sign(" + lay + ", " + debt + ")", ship.sign(lay, debt), model.sign(lay, debt));
            }
            case 2 -> {
                int w = random.nextBoolean() ? near(0, 6) : near(0, 99);
                int a = near(0, 5);
                int b = near(0, 4);
                int c = near(0, 3);
                same("ground(" + w + ", " + a + ", " + b + ", " + c + ")", ship.ground(w, a, b, c), model.ground(w, a, b, c));
            }
            case 3 -> {
                int y = near(0, 5);
                int p = near(0, 99);
                same("price(" + y + ", " + p + ")", ship.price(y, p), model.price(y, p));
            }
            case 4 -> stepTerms();
            case 5, 6, 7 -> {
                feedText(text(true));
                same("law()", ship.law(), model.law());
                if (random.nextInt(4) > 0) {
                    same("force(last)", ship.force(ship.count(4) - 1), model.force(model.s.laws.size() - 1));
                }
            }
            case 8, 9, 10 -> {
                feedText(text(false));
                same("orders()", ship.orders(), model.orders());
            }
            case 11 -> {
                int l = near(-1, 5);
                same("force(" + l + ")", ship.force(l), model.force(l));
            }
            case 12, 13, 14, 15 -> {
                int g = near(0, 3);
                int w = near(0, 3);
                same("hunt(" + g + ", " + w + ")", ship.hunt(g, w), model.called(0, g, w));
            }
            case 16 -> {
                int c = few(999);
                same("sell(" + c + ")", ship.sell(c), model.called(1, c, 0));
            }
            case 17 -> {
                int h = near(0, 7);
                int p = few(9999);
                same("advance(" + h + ", " + p + ")", ship.advance(h, p), model.called(2, h, p));
            }
            case 18 -> {
                int h = near(0, 7);
                same("leave(" + h + ")", ship.leave(h), model.called(3, h, 0));
            }
            case 19 -> {
                int many = random.nextInt(10) == 0 ? 18 : 1;
                for (int i = 0; i < many; i++) {
                    same("undo()", ship.undo(), model.undo());
                }
            }
            case 20 -> {
                int w = near(0, 1);
                same("money(" + w + ")", ship.money(w), model.money(w));
                same("parts()", ship.parts(), model.parts());
            }
            case 21, 22 -> {
                int n = near(0, 12);
                int w = near(0, 1);
                same("best(" + n + ", " + w + ")", ship.best(n, w), model.best(n, w));
            }
            case 23 -> {
                int g = near(0, 3);
                int n = near(0, 24);
                int o = random.nextBoolean() ? near(0, 200) : near(0, 999);
                same("odds(" + g + ", " + n + ", " + o + ")", ship.odds(g, n, o), model.odds(g, n, o));
            }
            case 24 -> {
                int w = near(0, 1);
                same("left(" + w + ")", ship.left(w), model.left(w));
                int h = near(0, 7);
                same("least(" + h + ")", ship.least(h), model.least(h));
            }
            case 25 -> {
                int g = near(0, 3);
                int c = random.nextBoolean() ? near(1, 20) : near(1, 99);
                int w = near(0, 1);
                same("crew(" + g + ", " + c + ", " + w + ")", ship.crew(g, c, w), model.crew(g, c, w));
            }
            case 26, 27 -> stepWords();
            case 28 -> {
                int seed = near(0, 1000000);
                int n = near(1, 60);
                same("years(" + seed + ", " + n + ")", ship.years(seed, n), model.years(seed, n));
            }
            case 29 -> {
                for (int k = -1; k < 9; k++) {
                    for (int w = -1; w < 5; w++) {
                        quiet("drawn(" + k + ", " + w + ")", ship.drawn(k, w), model.drawn(k, w));
                    }
                }
            }
            case 30 -> {
                int k = near(0, 1);
                same("image(" + k + ")", ship.image(k), model.image(k));
            }
            case 31 -> {
                int k = near(0, 1);
                same("back(" + k + ")", ship.back(k), model.back(k));
            }
            case 32 -> {
                feedRow();
                same("row()", ship.row(), model.row());
            }
            default -> {
                int n = near(0, 60);
                same("feed()", ship.feed(n, 1, 2, 3, 4), model.feed(n, 1, 2, 3, 4));
                same("end(" + n + ")", ship.end(n), model.end(n));
            }
        }
    }

    private void stepTerms() {
        int what = near(0, 2);
        int value = what == 0 ? near(0, 71) : what == 1 ? near(1, 999) : near(0, 9);
        if (what == 1 && random.nextBoolean()) {
            value = near(1, 80);
        }
        same("terms(" + what + ", " + value + ")", ship.terms(what, value), model.terms(what, value));
    }

    private void stepWords() {
        int h = near(0, 7);
        // mostly what is true for some OIL, so that WORDS seldom leave none at once
        int pence = few(999999);
        if (h >= 0 && h < model.s.hands.size() && random.nextInt(4) > 0) {
            int oil = random.nextInt(3) == 0 ? random.nextInt(model.s.hold + 1) : model.s.hold / 2;
            pence = (model.s.purse + oil * model.s.price()) / model.s.hands.get(h).lay();
        }
        same("word(" + h + ", " + pence + ")", ship.word(h, pence), model.word(h, pence));
        for (int w = -1; w < 4; w++) {
            same("barrels(" + w + ")", ship.barrels(w), model.barrels(w));
            same("ask(" + w + ")", ship.ask(w), model.ask(w));
        }
        if (random.nextInt(4) == 0) {
            same("forget()", ship.forget(), model.forget());
        }
    }

    private void feedText(String text) {
        ship.end(0);
        model.end(0);
        String whole = text.length() > 400 ? text.substring(0, 400) : text;
        told.add("text " + whole);
        Due.text(ship, whole);
        model.tape = whole;
    }

    private void feedRow() {
        StringBuilder row = new StringBuilder();
        int many = random.nextInt(5);
        for (int i = 0; i < many; i++) {
            row.append((char) (near(0, 99) & 255)).append((char) random.nextInt(5));
            row.append((char) random.nextInt(5)).append((char) (near(0, 4) & 255));
        }
        row.setLength(Math.max(0, row.length() - (random.nextInt(3) == 0 ? random.nextInt(4) : 0)));
        feedText(row.toString());
    }

    // ---- texts ----

    private String text(boolean law) {
        StringBuilder text = new StringBuilder();
        int clauses = random.nextInt(20) == 0 ? 11 + random.nextInt(4) : 1 + random.nextInt(4);
        for (int i = 0; i < clauses; i++) {
            text.append(i > 0 ? " ; " : "").append(law ? lawClause(clauses > 5) : orderClause(clauses > 5));
        }
        if (random.nextInt(30) == 0) {
            return deep(law);
        }
        String whole = text.toString();
        if (random.nextInt(3) == 0) {
            whole = whole.replaceAll(" ([^a-z0-9]) ", "$1");
        }
        return random.nextInt(6) == 0 ? spoilt(whole) : whole;
    }

    /** Brackets within one another, about as many as can be. */
    private String deep(boolean law) {
        int round = random.nextInt(6);
        int square = 4 + random.nextInt(3) + (round > 3 ? 0 : 2);
        square = random.nextBoolean() ? square : 8 - round;
        return (law ? "deserts if " : "sell 1 if ") + "not ".repeat(random.nextInt(5)) + "(".repeat(round)
            + "[".repeat(Math.max(0, square)) + "oil" + "]".repeat(Math.max(0, square)) + " > 3" + ")".repeat(round);
    }

    private String lawClause(boolean brief) {
        String head = switch (random.nextInt(3)) {
            case 0 -> "casks " + sum(true, brief ? 0 : 2);
            case 1 -> "eats " + sum(true, brief ? 0 : 2);
            default -> "deserts";
        };
        boolean bare = head.equals("deserts") ? random.nextInt(12) == 0 : random.nextInt(3) == 0;
        return bare ? head : head + " if " + test(true, brief ? 0 : 2);
    }

    private String orderClause(boolean brief) {
        String head = switch (random.nextInt(6)) {
            case 0, 1, 2 -> "hunt " + small() + " for " + small();
            case 3 -> "sell " + (random.nextBoolean() ? "oil" : sum(false, 1));
            case 4 -> "advance " + small() + " by " + (random.nextBoolean() ? "purse" : sum(false, 1));
            default -> "leave " + (random.nextInt(3) == 0 ? sum(false, 1) : small());
        };
        if (random.nextInt(4) == 0) {
            head += " times " + (random.nextInt(20) == 0 ? random.nextInt(30) : 1 + random.nextInt(20));
        }
        return random.nextInt(3) > 0 ? head + " if " + test(false, brief ? 0 : 2) : head;
    }

    private String small() {
        return random.nextInt(3) == 0 ? "done % 3" : "" + random.nextInt(random.nextInt(8) == 0 ? 5 : 2);
    }

    private String test(boolean law, int depth) {
        int dice = random.nextInt(depth <= 0 ? 3 : 8);
        return switch (dice) {
            case 3 -> test(law, depth - 1) + " or " + test(law, depth - 1);
            case 4 -> test(law, depth - 1) + " and " + test(law, depth - 1);
            case 5 -> "not " + test(law, depth - 1);
            case 6 -> "( " + test(law, depth - 1) + " )";
            default -> sum(law, depth - 1) + " " + "<>=".charAt(random.nextInt(3)) + " " + sum(law, depth - 1);
        };
    }

    private String sum(boolean law, int depth) {
        if (depth <= 0 || random.nextInt(4) == 0) {
            return part(law);
        }
        if (random.nextInt(6) == 0) {
            return "[ " + sum(law, depth - 1) + " ]";
        }
        return sum(law, depth - 1) + " " + "+-*/%".charAt(random.nextInt(5)) + " " + sum(law, depth - 1);
    }

    private String part(boolean law) {
        if (random.nextInt(5) < 2) {
            int most = random.nextInt(3) == 0 ? 1003 : 40;
            return "" + random.nextInt(most);
        }
        if (law) {
            return Model.LAW_WORDS.get(random.nextInt(Model.LAW_WORDS.size()));
        }
        int dice = random.nextInt(9);
        if (dice < 5) {
            return Model.ORDER_WORDS.get(dice);
        }
        return dice < 7 ? "debt " + random.nextInt(random.nextInt(9) == 0 ? 9 : 3)
            : "whales " + random.nextInt(random.nextInt(9) == 0 ? 5 : 2);
    }

    /** A byte is lost, put in, or another; or the text ends too early. */
    private String spoilt(String text) {
        String signs = " ;()[]<>=+-*/%a9zA\t\u0000\u00ff";
        int at = random.nextInt(text.length() + 1);
        char sign = signs.charAt(random.nextInt(signs.length()));
        return switch (random.nextInt(4)) {
            case 0 -> text.substring(0, at);
            case 1 -> text.substring(0, at) + sign + text.substring(at);
            case 2 -> text.substring(0, at) + text.substring(Math.min(text.length(), at + 1));
            default -> text.substring(0, at) + sign + text.substring(Math.min(text.length(), at + 1));
        };
    }
}
