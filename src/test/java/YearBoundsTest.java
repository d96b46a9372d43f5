import java.util.function.IntSupplier;

/**
 * The boundary cases of Terms IV and of promises 33 to 38, sentence by sentence: years, drawn,
 * images, counts, status.
 */
public final class YearBoundsTest {
    private static final int LEAST = Integer.MIN_VALUE;
    private static final int MOST = Integer.MAX_VALUE;
    private static final Due DUE = new Due("YearBoundsTest");

    public static void main(String[] args) {
        seeds();
        monthsOfYears();
        noGrounds();
        tillMonth71();
        asLongAsSomebodyIsAboard();
        modulo();
        drawsOfGrounds();
        drawsOfTen();
        yearsNoMoreThanThereAre();
        yearsHunt();
        onPaper();
        drawnNone();
        drawnOfTheLatest();
        images();
        imagesKeepAll();
        imagesOfTwo();
        imagesDoNotKeep();
        imagesStay();
        imagesApart();
        countNone();
        countRefused();
        countBehindBack();
        statusAhead();
        statusOfEach();
        statusOfNoOther();
        DUE.close();
    }

    private static WhaleLays ship() {
        WhaleLays x = new WhaleLays();
        x.sign(10, 7);
        x.sign(20, 0);
        x.ground(99, 10, 0, 0);
        return x;
    }

    // ---- years ----

    private static void seeds() {
        DUE.says("s is the SEED (0 .. 1,000,000)");
        WhaleLays x = ship();
        DUE.refused(x, "years(-1, 1)", -1, () -> x.years(-1, 1));
        DUE.refused(x, "years(1000001, 1)", -1, () -> x.years(1000001, 1));
        DUE.refused(x, "years(1000002, 1)", -1, () -> x.years(1000002, 1));
        DUE.refused(x, "years(least, 1)", -1, () -> x.years(LEAST, 1));
        DUE.refused(x, "years(most, 1)", -1, () -> x.years(MOST, 1));
        DUE.is("none was kept", x.drawn(0, 1), -1);
        DUE.is("years(0, 1)", x.years(0, 1), 0);
        DUE.is("status()", x.status(), 0);
        DUE.is("MONTH", x.drawn(0, 1), 1);
        DUE.is("years(1000000, 2)", x.years(1000000, 2), 0);
        DUE.is("MONTH", x.drawn(0, 1), 2);
    }

    private static void monthsOfYears() {
        DUE.says("YEARS with a SEED, n MONTHS 1 .. 60");
        WhaleLays x = ship();
        DUE.refused(x, "years(0, 0)", -1, () -> x.years(0, 0));
        DUE.refused(x, "years(0, -1)", -1, () -> x.years(0, -1));
        DUE.refused(x, "years(0, 61)", -1, () -> x.years(0, 61));
        DUE.refused(x, "years(0, least)", -1, () -> x.years(0, LEAST));
        DUE.refused(x, "years(0, most)", -1, () -> x.years(0, MOST));
        int[] months = {1, 2, 59, 60};
        for (int n : months) {
            DUE.is("years(0, " + n + ")", x.years(0, n), 0);
            DUE.is("MONTH", x.drawn(0, 1), n);
            DUE.is("WHALES", x.drawn(0, 2), 99 - n);
            DUE.is("OIL", x.drawn(0, 0), Math.min(200, 20 * n));
            DUE.is("DEBT", x.drawn(0, 3), 7 + 5 * n);
        }
    }

    private static void noGrounds() {
        DUE.says("Promise 33: -1; -3 there are no GROUNDS");
        WhaleLays x = new WhaleLays();
        DUE.refused(x, "neither HANDS nor GROUNDS", -3, () -> x.years(0, 1));
        x.sign(1, 0);
        DUE.refused(x, "no GROUNDS", -3, () -> x.years(1000000, 60));
        DUE.says("REFUSED by the first of these in that order");
        DUE.refused(x, "a SEED that can't be, no GROUNDS", -1, () -> x.years(-1, 1));
        DUE.refused(x, "MONTHS that can't be, no GROUNDS", -1, () -> x.years(0, 61));
        DUE.is("none was kept", x.drawn(0, 0), -1);
        x.ground(0, 0, 0, 0);
        DUE.is("one GROUND without whales", x.years(0, 1), 0);
        DUE.is("MONTH", x.drawn(0, 1), 1);
        DUE.is("OIL", x.drawn(0, 0), 0);
    }

    private static void tillMonth71() {
        DUE.says("Each MONTH (till MONTH 71)");
        WhaleLays x = ship();
        int[] from = {10, 11, 12, 69, 70, 71};
        for (int month : from) {
            x.terms(0, month);
            DUE.is("years(5, 60) from MONTH " + month, x.years(5, 60), 0);
            DUE.is("MONTH", x.drawn(0, 1), Math.min(71, month + 60));
            DUE.is("WHALES", x.drawn(0, 2), 99 - Math.min(60, 71 - month));
        }
        DUE.is("from MONTH 71 that is no refusal", x.status(), 0);
        Due.rule(x, "deserts if hand + 1 = crew");
        DUE.is("at MONTH 71 nobody is asked any more", x.years(5, 60), 0);
        x.terms(0, 70);
        DUE.is("from MONTH 70 on once", x.years(5, 60), 1);
        x.terms(0, 69);
        DUE.is("from MONTH 69 on twice", x.years(5, 60), 2);
    }

    private static void asLongAsSomebodyIsAboard() {
        DUE.says("as long as somebody is ABOARD");
        WhaleLays none = new WhaleLays();
        none.ground(9, 10, 0, 0);
        DUE.is("without HANDS", none.years(0, 60), 0);
        DUE.is("that is no refusal", none.status(), 0);
        DUE.is("MONTH", none.drawn(0, 1), 0);
        DUE.is("WHALES", none.drawn(0, 2), 9);
        WhaleLays x = ship();
        Due.rule(x, "deserts if served = 3 + hand * 2");
        DUE.is("both go", x.years(0, 60), 2);
        DUE.is("it ends with the last one", x.drawn(0, 1), 5);
        DUE.is("the first owes for 3 MONTHS", x.drawn(0, 3), 7 + 15);
        DUE.is("the second for 5", x.drawn(1, 3), 25);
        DUE.is("till the first goes", x.years(0, 3), 1);
        DUE.is("till nobody goes", x.years(0, 2), 0);
        x.leave(0);
        DUE.is("who is GONE is not counted", x.years(0, 60), 1);
        x.leave(1);
        DUE.is("all GONE", x.years(0, 60), 0);
        DUE.is("no MONTH", x.drawn(0, 1), 0);
    }

    /** One MONTH's draws: of GROUNDS, then of 10. */
    private static int[] draws(int seed, int grounds) {
        long s = (seed * 1103L + 12345) % 1000003;
        int ground = (int) (s % grounds);
        s = (s * 1103 + 12345) % 1000003;
        return new int[] {ground, (int) (s % 10)};
    }

    private static void modulo() {
        DUE.says("s becomes (s times 1103 and 12345) modulo 1,000,003");
        // 895 becomes 999,530, which is still below the modulus; 896 goes round
        int[] seeds = {0, 1, 895, 896, 999999, 1000000};
        for (int seed : seeds) {
            WhaleLays x = new WhaleLays();
            x.sign(1, 0);
            for (int ground = 0; ground < 4; ground++) {
                x.ground(50, 3, 3, 3);
            }
            int[] due = draws(seed, 4);
            x.years(seed, 1);
            int taken = due[1] < 3 ? 3 : due[1] < 6 ? 2 : due[1] < 9 ? 1 : 0;
            for (int ground = 0; ground < 4; ground++) {
                DUE.is("WHALES of " + ground + " by " + seed, x.drawn(ground, 2), ground == due[0] ? 50 - taken : 50);
            }
        }
        // a run of 60 MONTHS: s goes round the modulus many times
        WhaleLays x = new WhaleLays();
        x.sign(1, 0);
        x.ground(99, 4, 2, 1);
        x.ground(99, 1, 2, 4);
        x.ground(99, 0, 5, 0);
        long s = 1000000;
        int[] whales = {99, 99, 99};
        int[][] odds = {{4, 2, 1}, {1, 2, 4}, {0, 5, 0}};
        for (int month = 0; month < 60; month++) {
            s = (s * 1103 + 12345) % 1000003;
            int g = (int) (s % 3);
            s = (s * 1103 + 12345) % 1000003;
            int d = (int) (s % 10);
            int three = odds[g][2];
            int two = three + odds[g][1];
            int one = two + odds[g][0];
            whales[g] -= Math.min(whales[g], d < three ? 3 : d < two ? 2 : d < one ? 1 : 0);
        }
        x.years(1000000, 60);
        for (int g = 0; g < 3; g++) {
            DUE.is("WHALES of " + g + " behind 60 MONTHS", x.drawn(g, 2), whales[g]);
        }
    }

    private static void drawsOfGrounds() {
        DUE.says("a DRAW of GROUNDS");
        for (int grounds = 1; grounds <= 4; grounds++) {
            boolean[] seen = new boolean[4];
            for (int seed = 0; seed < 12; seed++) {
                WhaleLays x = new WhaleLays();
                x.sign(1, 0);
                for (int ground = 0; ground < grounds; ground++) {
                    x.ground(9, 0, 0, 10);
                }
                x.years(seed, 1);
                int due = draws(seed, grounds)[0];
                seen[due] = true;
                for (int ground = 0; ground < grounds; ground++) {
                    DUE.is("WHALES of " + ground + " of " + grounds + " by " + seed, x.drawn(ground, 2), ground == due ? 6 : 9);
                }
            }
            DUE.that("the last of " + grounds + " was drawn", seen[grounds - 1]);
            DUE.that("the first of " + grounds + " was drawn", seen[0]);
        }
    }

    private static void drawsOfTen() {
        DUE.says("below the ODDS of three 3 whales, else below these and those of two 2, else below all three 1, else none");
        int[] seedOf = new int[10];
        for (int seed = 1; seed < 200; seed++) {
            int draw = draws(seed, 1)[1];
            seedOf[draw] = seedOf[draw] == 0 ? seed : seedOf[draw];
        }
        int[][] odds = {{1, 2, 3}, {3, 2, 1}, {0, 0, 0}, {10, 0, 0}, {0, 10, 0}, {0, 0, 10}, {3, 3, 4}, {0, 1, 0}, {1, 0, 1}};
        for (int[] o : odds) {
            for (int draw = 0; draw < 10; draw++) {
                DUE.that("there is a SEED for " + draw, seedOf[draw] > 0);
                WhaleLays x = new WhaleLays();
                x.sign(1, 0);
                x.ground(50, o[0], o[1], o[2]);
                x.years(seedOf[draw], 1);
                int taken = draw < o[2] ? 3 : draw < o[2] + o[1] ? 2 : draw < o[2] + o[1] + o[0] ? 1 : 0;
                String which = "ODDS " + o[0] + " " + o[1] + " " + o[2] + ", a draw of " + draw;
                DUE.is(which + ": WHALES", x.drawn(0, 2), 50 - taken);
                DUE.is(which + ": OIL", x.drawn(0, 0), 20 * taken);
            }
        }
    }

    private static void yearsNoMoreThanThereAre() {
        DUE.says("no more than there are: it HUNTS so");
        for (int there = 0; there <= 7; there++) {
            WhaleLays x = new WhaleLays();
            x.sign(1, 0);
            x.ground(there, 0, 0, 10);
            for (int n = 1; n <= 3; n++) {
                DUE.is("years(0, " + n + ") of " + there, x.years(0, n), 0);
                DUE.is("WHALES", x.drawn(0, 2), Math.max(0, there - 3 * n));
                DUE.is("OIL", x.drawn(0, 0), 20 * Math.min(there, 3 * n));
                DUE.is("MONTH", x.drawn(0, 1), n);
            }
        }
    }

    private static void yearsHunt() {
        DUE.says("it HUNTS so: HOLD at most, DEBT 9,999 at most");
        WhaleLays x = ship();
        x.sign(1, 9990);
        x.terms(1, 50);
        x.years(3, 2);
        DUE.is("OIL", x.drawn(0, 0), 40);
        DUE.is("DEBT", x.drawn(2, 3), 9999);
        x.years(3, 1);
        DUE.is("DEBT", x.drawn(2, 3), 9995);
        x.years(3, 3);
        DUE.is("OIL", x.drawn(0, 0), 50);
        x.years(3, 60);
        DUE.is("OIL", x.drawn(0, 0), 50);
        DUE.is("DEBT", x.drawn(2, 3), 9999);
    }

    private static void onPaper() {
        DUE.says("YEARS, on paper");
        WhaleLays x = ship();
        Due.rule(x, "deserts if hand = 1");
        x.hunt(0, 2);
        x.undo();
        x.hunt(0, 1);
        String before = x.count(5) + " " + x.count(13) + " " + x.count(15) + " " + x.count(1) + " " + x.at(0, 0) + " " + x.of(0, 1);
        x.years(9, 60);
        String behind = x.count(5) + " " + x.count(13) + " " + x.count(15) + " " + x.count(1) + " " + x.at(0, 0) + " " + x.of(0, 1);
        DUE.same("all is as it was", behind, before);
        DUE.is("undo() is not of them", x.undo(), 0);
        DUE.is("MONTH", x.count(15), 0);
    }

    private static void drawnNone() {
        DUE.says("Promise 34: NONE");
        WhaleLays x = ship();
        DUE.all("ahead of any YEARS", -1, () -> x.drawn(0, 0), () -> x.drawn(0, 1), () -> x.drawn(0, 2), () -> x.drawn(0, 3));
        x.years(0, 61);
        DUE.all("behind REFUSED ones", -1, () -> x.drawn(0, 0), () -> x.drawn(0, 1), () -> x.drawn(0, 2), () -> x.drawn(0, 3));
        x.years(0, 4);
        DUE.all("what", -1, () -> x.drawn(0, -1), () -> x.drawn(0, 4), () -> x.drawn(0, LEAST), () -> x.drawn(0, MOST));
        DUE.all("GROUND", -1, () -> x.drawn(-1, 2), () -> x.drawn(1, 2), () -> x.drawn(4, 2), () -> x.drawn(LEAST, 2),
            () -> x.drawn(MOST, 2));
        DUE.all("HAND", -1, () -> x.drawn(-1, 3), () -> x.drawn(2, 3), () -> x.drawn(8, 3), () -> x.drawn(LEAST, 3),
            () -> x.drawn(MOST, 3));
        DUE.is("the last HAND", x.drawn(1, 3), 20);
        DUE.says("(k aside)");
        DUE.all("MONTH", 4, () -> x.drawn(-1, 1), () -> x.drawn(99, 1), () -> x.drawn(LEAST, 1), () -> x.drawn(MOST, 1));
        DUE.all("OIL", 80, () -> x.drawn(-1, 0), () -> x.drawn(99, 0), () -> x.drawn(LEAST, 0), () -> x.drawn(MOST, 0));
        DUE.is("none of these is REFUSED", x.status() + x.count(8), 0);
    }

    private static void drawnOfTheLatest() {
        DUE.says("Behind the latest YEARS");
        WhaleLays x = ship();
        x.years(0, 4);
        x.sign(1, 0);
        x.ground(50, 0, 0, 0);
        x.hunt(0, 1);
        x.price(0, 99);
        DUE.is("a HAND that came later", x.drawn(2, 3), -1);
        DUE.is("a GROUND that came later", x.drawn(1, 2), -1);
        DUE.is("MONTH", x.drawn(0, 1), 4);
        x.years(-1, 1);
        x.years(0, 0);
        DUE.is("REFUSED ones are not the latest", x.drawn(0, 1), 4);
        x.years(0, 1);
        DUE.is("the latest: MONTH", x.drawn(0, 1), 2);
        DUE.is("the latest: HAND 2", x.drawn(2, 3), 10);
        DUE.is("the latest: GROUNDS", x.drawn(0, 2) + x.drawn(1, 2), 98 + 50 - (x.drawn(0, 0) - 20) / 20);
        WhaleLays y = ship();
        y.years(0, 2);
        y.leave(0);
        y.leave(1);
        y.years(0, 9);
        DUE.is("the latest without a MONTH", y.drawn(0, 1), 0);
        DUE.is("DEBT of one that is GONE", y.drawn(0, 3), 7);
    }

    // ---- images ----

    private static void images() {
        DUE.says("Promise 35: -1; Promise 36: -1; -2 it was not kept");
        WhaleLays x = ship();
        DUE.refused(x, "image(-1)", -1, () -> x.image(-1));
        DUE.refused(x, "image(2)", -1, () -> x.image(2));
        DUE.refused(x, "image(least)", -1, () -> x.image(LEAST));
        DUE.refused(x, "image(most)", -1, () -> x.image(MOST));
        DUE.refused(x, "back(-1)", -1, () -> x.back(-1));
        DUE.refused(x, "back(2)", -1, () -> x.back(2));
        DUE.refused(x, "back(least)", -1, () -> x.back(LEAST));
        DUE.refused(x, "back(most)", -1, () -> x.back(MOST));
        DUE.refused(x, "back(0)", -2, () -> x.back(0));
        DUE.refused(x, "back(1)", -2, () -> x.back(1));
        DUE.is("image(1)", x.image(1), 0);
        DUE.refused(x, "back(0), 1 being kept", -2, () -> x.back(0));
        DUE.is("back(1)", x.back(1), 0);
        DUE.is("status()", x.status(), 0);
        DUE.is("image(0)", x.image(0), 0);
        DUE.is("back(0)", x.back(0), 0);
    }

    private static void imagesKeepAll() {
        DUE.says("BACK to one all that it keeps is as it was then");
        WhaleLays empty = new WhaleLays();
        String none = Seen.of(empty);
        empty.image(0);
        fill(empty);
        empty.back(0);
        DUE.same("an empty ship", withoutYears(Seen.of(empty)), withoutYears(none));
        DUE.is("there is room for a HAND", empty.sign(1, 0), 0);
        DUE.is("there is room for a GROUND", empty.ground(1, 0, 0, 0), 0);
        DUE.is("there is room for a LAW", Due.law(empty, "casks 1"), 0);
        DUE.is("there is room for a WORD", empty.word(0, 0), 1);
        WhaleLays full = new WhaleLays();
        fill(full);
        full.terms(2, 8);
        String all = Seen.of(full);
        full.image(1);
        for (int year = 0; year < 6; year++) {
            full.price(year, 0);
        }
        full.hunt(3, 0);
        full.force(-1);
        full.forget();
        for (int i = 0; i < 8; i++) {
            full.word(0, 77);
        }
        for (int hand = 0; hand < 8; hand++) {
            full.leave(hand);
        }
        full.terms(0, 0);
        full.terms(1, 998);
        full.terms(2, 0);
        full.back(1);
        DUE.same("a full ship", Seen.of(full), all);
        DUE.is("no room for a HAND", full.sign(1, 0), -5);
        DUE.is("no room for a GROUND", full.ground(1, 0, 0, 0), -5);
        DUE.is("no room for a LAW", Due.law(full, "casks 1"), -5);
        DUE.is("no room for a WORD", full.word(0, 0), -5);
    }

    /** BACK and forth between two that have all otherwise. */
    private static void imagesOfTwo() {
        DUE.says("BACK to one all that it keeps is as it was then");
        WhaleLays x = new WhaleLays();
        x.image(0);
        fill(x);
        // so that nothing can be undone, as behind back()
        x.terms(2, 8);
        x.image(1);
        String all = Seen.of(x);
        x.back(0);
        x.terms(0, 33);
        x.terms(1, 777);
        for (int hand = 0; hand < 8; hand++) {
            x.sign(1 + hand, hand);
        }
        for (int ground = 0; ground < 4; ground++) {
            x.ground(ground, 0, 2 + ground, 0);
        }
        for (int law = 0; law < 6; law++) {
            Due.rule(x, "casks 1; eats 99; deserts if crew = 1");
        }
        for (int year = 0; year < 6; year++) {
            x.price(year, 1 + year);
        }
        for (int i = 0; i < 8; i++) {
            x.word(i, 1);
        }
        x.hunt(3, 3);
        x.leave(7);
        x.force(2);
        x.terms(2, 7);
        String other = Seen.of(x);
        x.image(0);
        for (int i = 0; i < 2; i++) {
            x.back(1);
            DUE.same("to the one", Seen.of(x), all);
            x.back(0);
            DUE.same("to the other", Seen.of(x), other);
        }
        for (int law = 0; law < 6; law++) {
            x.back(1);
            x.force(law);
            DUE.is("LAW " + law + " of the one", x.at(0, 4), 90 + law);
            x.back(0);
            x.force(law);
            DUE.is("LAW " + law + " of the other", x.at(0, 4), 1);
        }
    }

    private static void fill(WhaleLays x) {
        for (int hand = 0; hand < 8; hand++) {
            x.sign(992 + hand, 9990 + hand);
        }
        for (int ground = 0; ground < 4; ground++) {
            x.ground(96 + ground, ground, 1, 6 - ground);
        }
        for (int law = 0; law < 6; law++) {
            Due.rule(x, "casks 90 + ground + " + law + "; eats hand; deserts if hand = " + law + " and month = 70");
        }
        x.terms(1, 999);
        x.terms(2, 9);
        for (int year = 0; year < 6; year++) {
            x.price(year, 94 + year);
        }
        x.terms(0, 69);
        x.hunt(3, 3);
        x.sell(200);
        x.advance(0, 1);
        for (int i = 0; i < 8; i++) {
            x.word(i, x.money(0) / (992 + i));
        }
    }

    private static String withoutYears(String seen) {
        return seen.replaceAll(", years.*", "");
    }

    private static void imagesDoNotKeep() {
        DUE.says("IMAGES 0, 1 keep all but the TAPE, FAULT, SPRAY, where ORDERS stopped, what can be undone, the latest YEARS");
        WhaleLays x = ship();
        Due.text(x, "casks 9");
        x.image(0);
        x.law();
        Due.law(x, "casks ?");
        x.years(0, 9);
        Due.orders(x, "sell 1");
        Due.law(x, "eats ??");
        Due.bytes(x, 255, 0, 0, 0, 1, 1);
        x.row();
        x.feed(1, 1, 1, 1, 1);
        x.hunt(0, 1);
        x.back(0);
        DUE.is("the TAPE", x.count(6), 20);
        DUE.is("FAULT", x.fault(), 5);
        DUE.is("SPRAY", x.spray(), 2);
        DUE.is("where ORDERS stopped", x.stopped(), 0);
        DUE.is("what can be undone", x.count(5), 0);
        DUE.is("the latest YEARS", x.drawn(0, 1), 9);
        DUE.is("LAWS are kept", x.count(4), 0);
        x.image(1);
        x.end(0);
        x.years(0, 10);
        Due.orders(x, "hunt 0 for 0; hunt 0 for 0; leave 9");
        Due.bytes(x, 1);
        x.row();
        x.back(1);
        DUE.is("the TAPE", x.count(6), 0);
        DUE.is("FAULT", x.fault(), -1);
        DUE.is("SPRAY", x.spray(), 1);
        DUE.is("where ORDERS stopped", x.stopped(), 2);
        DUE.is("the latest YEARS", x.drawn(0, 1), 10);
    }

    private static void imagesStay() {
        DUE.says("(IMAGES stay)");
        WhaleLays x = ship();
        x.image(0);
        x.hunt(0, 1);
        x.image(1);
        for (int i = 0; i < 3; i++) {
            x.hunt(0, 2);
            DUE.is("back(0)", x.back(0), 0);
            DUE.is("MONTH", x.count(15), 0);
            x.hunt(0, 3);
            DUE.is("back(1)", x.back(1), 0);
            DUE.is("MONTH", x.count(15), 1);
            DUE.is("WHALES", x.at(0, 0), 98);
        }
        DUE.is("kept anew", x.image(0), 0);
        x.hunt(0, 1);
        x.back(0);
        DUE.is("MONTH", x.count(15), 1);
        x.back(1);
        DUE.is("the other stays", x.count(15), 1);
    }

    private static void imagesApart() {
        DUE.says("IMAGES 0, 1: an object's own");
        WhaleLays x = ship();
        WhaleLays y = ship();
        x.image(0);
        DUE.refused(y, "another object's", -2, () -> y.back(0));
        Due.rule(x, "casks 7");
        x.image(0);
        x.back(0);
        DUE.is("the LAW in FORCE", x.at(0, 4), 7);
        DUE.is("another object's LAW", y.at(0, 4), 20);
    }

    // ---- count, status ----

    private static void countNone() {
        DUE.says("Promise 37: NONE for others");
        WhaleLays x = ship();
        DUE.all("count()", -1, () -> x.count(-1), () -> x.count(24), () -> x.count(25), () -> x.count(100), () -> x.count(LEAST),
            () -> x.count(MOST));
        DUE.is("the last", x.count(23), 10);
        DUE.is("the first", x.count(0), 2);
    }

    private static void countRefused() {
        DUE.says("7 .. 11 how many calls were REFUSED by -1, -2, -3, -5, -6");
        WhaleLays x = ship();
        for (int i = 0; i < 6; i++) {
            Due.law(x, "deserts");
        }
        int[] due = {0, 0, 0, 0, 0};
        for (int round = 1; round <= 3; round++) {
            x.price(6, 0);
            x.force(6);
            x.undo();
            Due.law(x, "?");
            Due.orders(x, "?");
            for (int i = 0; i < 5; i++) {
                DUE.is("count(" + (7 + i) + ")", x.count(7 + i), due[i] + round);
            }
        }
        Due.orders(x, "hunt 9 for 0");
        DUE.is("one that ORDERS ask for is not counted", x.count(8), 3);
        DUE.is("ORDERS are, once", x.count(9), 4);
    }

    private static void countBehindBack() {
        DUE.says("(IMAGES do not keep that)");
        WhaleLays x = ship();
        x.price(6, 0);
        x.image(0);
        x.price(6, 0);
        x.force(0);
        x.undo();
        x.row();
        x.back(0);
        DUE.is("count(7)", x.count(7), 2);
        DUE.is("count(8)", x.count(8), 1);
        DUE.is("count(9)", x.count(9), 1);
        DUE.is("count(11)", x.count(11), 1);
    }

    private static void statusAhead() {
        DUE.says("Promise 38: 0 if it was not, or ahead of any");
        WhaleLays x = new WhaleLays();
        DUE.is("status() of a new object", x.status(), 0);
        x.end(1);
        x.of(0, 0);
        x.best(99, 0);
        DUE.is("status() behind others alone", x.status(), 0);
    }

    private static void sets(WhaleLays x, String call, int by, IntSupplier wrong, IntSupplier right) {
        x.price(9, 9);
        right.getAsInt();
        DUE.is(call + " that was not REFUSED", x.status(), 0);
        wrong.getAsInt();
        DUE.is(call + " that was REFUSED", x.status(), by);
        DUE.is("status() stays, when it is asked", x.status(), by);
    }

    private static void statusOfEach() {
        DUE.says("sign, ground, price, terms, row, law, orders, force, hunt, sell, advance, leave, undo, word, years, image, back");
        WhaleLays x = ship();
        sets(x, "sign()", -1, () -> x.sign(0, 0), () -> x.sign(9, 0));
        sets(x, "ground()", -1, () -> x.ground(0, 9, 9, 9), () -> x.ground(0, 0, 0, 0));
        sets(x, "price()", -1, () -> x.price(0, 100), () -> x.price(0, 10));
        sets(x, "terms()", -1, () -> x.terms(2, 10), () -> x.terms(2, 0));
        sets(x, "row()", -6, () -> x.row(), () -> {
            Due.bytes(x, 1);
            return x.row();
        });
        sets(x, "law()", -6, () -> Due.law(x, ";"), () -> Due.law(x, "eats 1"));
        sets(x, "orders()", -3, () -> Due.orders(x, "leave 9"), () -> Due.orders(x, "leave 9 if 1 = 2"));
        sets(x, "orders()", -6, () -> Due.orders(x, "leave"), () -> Due.orders(x, "leave 9 if 1 = 2"));
        sets(x, "force()", -2, () -> x.force(1), () -> x.force(-1));
        sets(x, "hunt()", -3, () -> {
            x.terms(0, 71);
            return x.hunt(0, 1);
        }, () -> x.hunt(0, 1));
        sets(x, "sell()", -3, () -> x.sell(999), () -> x.sell(1));
        sets(x, "advance()", -3, () -> x.advance(0, 9999), () -> x.advance(0, 1));
        sets(x, "leave()", -3, () -> x.leave(2), () -> x.leave(2));
        sets(x, "undo()", -3, () -> {
            x.terms(2, 0);
            return x.undo();
        }, () -> x.undo());
        sets(x, "word()", -2, () -> x.word(3, 0), () -> x.word(2, 0));
        sets(x, "years()", -1, () -> x.years(0, 0), () -> x.years(0, 1));
        sets(x, "image()", -1, () -> x.image(2), () -> x.image(0));
        sets(x, "back()", -2, () -> x.back(1), () -> x.back(0));
    }

    private static void statusOfNoOther() {
        DUE.says("status() of the latest of these calls, no other");
        WhaleLays x = ship();
        x.image(5);
        x.of(0, 0);
        x.at(0, 0);
        x.feed(0, 0, 0, 0, 0);
        x.end(0);
        x.spray();
        x.fault();
        x.stopped();
        x.money(0);
        x.parts();
        x.best(1, 0);
        x.odds(0, 1, 1);
        x.left(0);
        x.least(0);
        x.crew(0, 1, 0);
        x.forget();
        x.barrels(0);
        x.ask(0);
        x.drawn(0, 0);
        x.count(0);
        DUE.is("status()", x.status(), -1);
    }
}
