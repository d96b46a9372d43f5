/**
 * The boundary cases of Terms I and of promises 1 to 7, 29, 30, sentence by sentence: hands,
 * grounds, prices, terms, words.
 */
public final class ShipBoundsTest {
    private static final int NOTHING = WhaleLays.NOTHING;
    private static final int LEAST = Integer.MIN_VALUE;
    private static final int MOST = Integer.MAX_VALUE;
    private static final Due DUE = new Due("ShipBoundsTest");

    public static void main(String[] args) {
        emptyShip();
        calls512();
        lays();
        debts();
        eightHands();
        goneHandsKeepRoom();
        joined();
        ofNothing();
        shareAndWhole();
        whales();
        oddsOfAGround();
        tenTogether();
        fourGrounds();
        atNone();
        prices();
        years();
        month();
        hold();
        mood();
        otherTerms();
        wordsOfPence();
        eightWords();
        wordsOfGone();
        forget();
        DUE.close();
    }

    private static WhaleLays manned(int hands) {
        WhaleLays x = new WhaleLays();
        for (int hand = 0; hand < hands; hand++) {
            x.sign(10 + hand, hand);
        }
        return x;
    }

    /** One HAND, one GROUND, 20 casks, one hunt() that can be undone. */
    private static WhaleLays sailed() {
        WhaleLays x = manned(1);
        x.ground(9, 1, 1, 1);
        x.hunt(0, 1);
        return x;
    }

    private static void emptyShip() {
        DUE.says("Promise 1: a ship without hands");
        WhaleLays x = new WhaleLays();
        DUE.is("count(0)", x.count(0), 0);
        DUE.is("count(1)", x.count(1), 0);
        DUE.is("parts()", x.parts(), 0);
        DUE.is("money(0)", x.money(0), 0);
        DUE.is("money(1)", x.money(1), 0);
        DUE.is("left(0)", x.left(0), 0);
        DUE.is("forget()", x.forget(), 0);
        DUE.is("spray()", x.spray(), 0);
        DUE.is("fault()", x.fault(), -1);
        DUE.is("stopped()", x.stopped(), -1);
        DUE.is("status()", x.status(), 0);
        DUE.all("of", NOTHING, () -> x.of(0, 0), () -> x.of(0, 7), () -> x.of(-1, 0));
        DUE.all("NONE", -1, () -> x.at(0, 0), () -> x.least(0), () -> x.crew(0, 1, 0), () -> x.odds(0, 0, 0), () -> x.ask(0),
            () -> x.drawn(0, 0), () -> x.drawn(0, 1), () -> x.drawn(0, 2), () -> x.drawn(0, 3), () -> x.end(1));
        DUE.refused(x, "hunt(0, 0)", -2, () -> x.hunt(0, 0));
        DUE.refused(x, "sell(1)", -3, () -> x.sell(1));
        DUE.refused(x, "advance(0, 1)", -2, () -> x.advance(0, 1));
        DUE.refused(x, "leave(0)", -2, () -> x.leave(0));
        DUE.refused(x, "undo()", -3, () -> x.undo());
        DUE.refused(x, "word(0, 0)", -2, () -> x.word(0, 0));
        DUE.refused(x, "row()", -6, () -> x.row());
        DUE.refused(x, "law()", -6, () -> x.law());
        DUE.refused(x, "orders()", -6, () -> x.orders());
        DUE.refused(x, "force(0)", -2, () -> x.force(0));
        DUE.refused(x, "years(0, 1)", -3, () -> x.years(0, 1));
        DUE.refused(x, "back(0)", -2, () -> x.back(0));
    }

    private static void calls512() {
        DUE.says("An object is used for at most 512 calls");
        WhaleLays x = new WhaleLays();
        x.sign(1, 0);
        x.ground(99, 0, 0, 0);
        x.hunt(0, 3);
        for (int call = 4; call <= 508; call++) {
            x.sell(call % 2 == 0 ? 1000 : 61);
        }
        DUE.is("call 509: count(7)", x.count(7), 253);
        DUE.is("call 510: count(9)", x.count(9), 252);
        DUE.is("call 511: undo()", x.undo(), 0);
        DUE.is("call 512: count(15)", x.count(15), 0);
    }

    private static void lays() {
        DUE.says("a LAY 1 .. 999");
        WhaleLays x = new WhaleLays();
        DUE.refused(x, "sign(0, 0)", -1, () -> x.sign(0, 0));
        DUE.refused(x, "sign(-1, 0)", -1, () -> x.sign(-1, 0));
        DUE.refused(x, "sign(1000, 0)", -1, () -> x.sign(1000, 0));
        DUE.refused(x, "sign(least, 0)", -1, () -> x.sign(LEAST, 0));
        DUE.refused(x, "sign(most, 0)", -1, () -> x.sign(MOST, 0));
        DUE.is("sign(1, 0)", x.sign(1, 0), 0);
        DUE.is("sign(999, 0)", x.sign(999, 0), 1);
        DUE.is("of(0, 0)", x.of(0, 0), 1);
        DUE.is("of(1, 0)", x.of(1, 0), 999);
    }

    private static void debts() {
        DUE.says("DEBT 0 .. 9,999");
        WhaleLays x = new WhaleLays();
        DUE.refused(x, "sign(5, -1)", -1, () -> x.sign(5, -1));
        DUE.refused(x, "sign(5, 10000)", -1, () -> x.sign(5, 10000));
        DUE.refused(x, "sign(5, least)", -1, () -> x.sign(5, LEAST));
        DUE.refused(x, "sign(5, most)", -1, () -> x.sign(5, MOST));
        DUE.is("sign(5, 0)", x.sign(5, 0), 0);
        DUE.is("sign(5, 9999)", x.sign(5, 9999), 1);
        DUE.is("of(0, 1)", x.of(0, 1), 0);
        DUE.is("of(1, 1)", x.of(1, 1), 9999);
    }

    private static void eightHands() {
        DUE.says("HANDS 0 .. 7 (8 at most)");
        WhaleLays x = manned(7);
        x.ground(9, 0, 0, 0);
        DUE.is("the eighth", x.sign(17, 7), 7);
        DUE.is("status()", x.status(), 0);
        x.hunt(0, 1);
        DUE.refused(x, "the ninth", -5, () -> x.sign(18, 8));
        DUE.says("REFUSED by the first of these in that order");
        DUE.refused(x, "a ninth that can't be", -1, () -> x.sign(0, 8));
        DUE.refused(x, "a ninth that can't be", -1, () -> x.sign(18, 10000));
        DUE.says("nothing that was ahead of a sign() that was not REFUSED can be undone");
        DUE.is("undo() behind REFUSED ones", x.undo(), 0);
    }

    private static void goneHandsKeepRoom() {
        DUE.says("HANDS 0 .. 7 (8 at most): ABOARD or GONE");
        WhaleLays x = manned(8);
        for (int hand = 0; hand < 8; hand++) {
            DUE.is("leave(" + hand + ")", x.leave(hand), 7 - hand);
        }
        DUE.refused(x, "a ninth, when all are GONE", -5, () -> x.sign(1, 0));
        DUE.is("count(0)", x.count(0), 8);
        DUE.is("count(1)", x.count(1), 0);
    }

    private static void joined() {
        DUE.says("JOINED (the MONTH), ABOARD (at first)");
        WhaleLays x = new WhaleLays();
        x.sign(1, 0);
        x.terms(0, 71);
        x.sign(1, 0);
        DUE.is("in MONTH 0", x.of(0, 2), 0);
        DUE.is("in MONTH 71", x.of(1, 2), 71);
        DUE.is("of(1, 3)", x.of(1, 3), 1);
        x.terms(0, 5);
        DUE.is("it stays", x.of(1, 2), 71);
    }

    private static void ofNothing() {
        DUE.says("Promise 3: NOTHING");
        WhaleLays x = manned(7);
        for (int what = 0; what < 8; what++) {
            int asked = what;
            DUE.all("no such HAND, what " + what, NOTHING, () -> x.of(7, asked), () -> x.of(-1, asked), () -> x.of(8, asked),
                () -> x.of(LEAST, asked), () -> x.of(MOST, asked));
        }
        DUE.all("no such what", NOTHING, () -> x.of(0, -1), () -> x.of(6, 8), () -> x.of(0, LEAST), () -> x.of(0, MOST));
        x.sign(17, 7);
        DUE.is("the last HAND", x.of(7, 0), 17);
        DUE.all("behind the last", NOTHING, () -> x.of(8, 0), () -> x.of(39, 0));
        DUE.is("these are not REFUSED", x.status() + x.count(7) + x.count(8), 0);
    }

    private static void shareAndWhole() {
        DUE.says("MONEY by LAY (cut), its WHOLE, less DEBT: its SHARE (0 of one that is GONE)");
        WhaleLays x = new WhaleLays();
        x.sign(199, 9999);
        x.sign(200, 0);
        x.sign(201, 0);
        x.sign(1, 0);
        x.ground(9, 0, 0, 0);
        DUE.is("no MONEY: WHOLE", x.of(0, 6), 0);
        DUE.is("no MONEY: SHARE", x.of(0, 7), -9999);
        x.hunt(0, 1);
        DUE.is("200 by 199", x.of(0, 6), 1);
        DUE.is("less DEBT", x.of(0, 7), 1 - 9999);
        DUE.is("200 by 200", x.of(1, 6), 1);
        DUE.is("200 by 201", x.of(2, 6), 0);
        DUE.is("200 by 1", x.of(3, 6), 200);
        DUE.is("200 by 1, less DEBT", x.of(3, 7), 195);
        x.leave(0);
        DUE.is("GONE: WHOLE", x.of(0, 6), 0);
        DUE.is("GONE: SHARE", x.of(0, 7), 0);
        DUE.is("GONE: DEBT", x.of(0, 1), 9999);
    }

    private static void whales() {
        DUE.says("WHALES 0 .. 99");
        WhaleLays x = new WhaleLays();
        DUE.refused(x, "ground(-1, 0, 0, 0)", -1, () -> x.ground(-1, 0, 0, 0));
        DUE.refused(x, "ground(100, 0, 0, 0)", -1, () -> x.ground(100, 0, 0, 0));
        DUE.refused(x, "ground(least, 0, 0, 0)", -1, () -> x.ground(LEAST, 0, 0, 0));
        DUE.refused(x, "ground(most, 0, 0, 0)", -1, () -> x.ground(MOST, 0, 0, 0));
        DUE.is("ground(0, 0, 0, 0)", x.ground(0, 0, 0, 0), 0);
        DUE.is("ground(99, 0, 0, 0)", x.ground(99, 0, 0, 0), 1);
        DUE.is("at(0, 0)", x.at(0, 0), 0);
        DUE.is("at(1, 0)", x.at(1, 0), 99);
    }

    private static void oddsOfAGround() {
        DUE.says("ODDS of one, two, three in a month 0 .. 10");
        WhaleLays x = new WhaleLays();
        // another of the odds makes up for it, so that together they would not be more than 10
        DUE.refused(x, "one is -1", -1, () -> x.ground(1, -1, 5, 5));
        DUE.refused(x, "two is -1", -1, () -> x.ground(1, 5, -1, 5));
        DUE.refused(x, "three is -1", -1, () -> x.ground(1, 5, 5, -1));
        DUE.refused(x, "one is 11", -1, () -> x.ground(1, 11, 0, 0));
        DUE.refused(x, "two is 11", -1, () -> x.ground(1, 0, 11, 0));
        DUE.refused(x, "three is 11", -1, () -> x.ground(1, 0, 0, 11));
        DUE.refused(x, "one is 11, two -1", -1, () -> x.ground(1, 11, -1, 0));
        DUE.refused(x, "two is 11, three -1", -1, () -> x.ground(1, 0, 11, -1));
        DUE.refused(x, "three is 11, one -1", -1, () -> x.ground(1, -1, 0, 11));
        DUE.is("one is 10", x.ground(1, 10, 0, 0), 0);
        DUE.is("two is 10", x.ground(1, 0, 10, 0), 1);
        DUE.is("three is 10", x.ground(1, 0, 0, 10), 2);
        DUE.is("at(0, 1)", x.at(0, 1), 10);
        DUE.is("at(1, 2)", x.at(1, 2), 10);
        DUE.is("at(2, 3)", x.at(2, 3), 10);
        DUE.is("at(2, 1)", x.at(2, 1), 0);
    }

    private static void tenTogether() {
        DUE.says("in ten, 10 together at most");
        WhaleLays x = new WhaleLays();
        DUE.refused(x, "11 by one and two", -1, () -> x.ground(1, 10, 1, 0));
        DUE.refused(x, "11 by one and three", -1, () -> x.ground(1, 1, 0, 10));
        DUE.refused(x, "11 by two and three", -1, () -> x.ground(1, 0, 10, 1));
        DUE.refused(x, "11 by all", -1, () -> x.ground(1, 4, 4, 3));
        DUE.refused(x, "30", -1, () -> x.ground(1, 10, 10, 10));
        DUE.refused(x, "a sum that wraps round to 0", -1, () -> x.ground(1, MOST, MOST, 2));
        DUE.refused(x, "a sum that wraps round to 0", -1, () -> x.ground(1, LEAST, LEAST, 0));
        DUE.is("10 by all", x.ground(1, 3, 3, 4), 0);
        DUE.is("9 by all", x.ground(1, 3, 3, 3), 1);
        DUE.is("0 by all", x.ground(1, 0, 0, 0), 2);
    }

    private static void fourGrounds() {
        DUE.says("GROUNDS 0 .. 3 (4 at most)");
        WhaleLays x = sailed();
        x.ground(1, 1, 1, 1);
        x.ground(1, 1, 1, 1);
        DUE.is("the fourth", x.ground(40, 1, 2, 3), 3);
        x.hunt(3, 1);
        DUE.refused(x, "the fifth", -5, () -> x.ground(50, 1, 2, 3));
        DUE.says("REFUSED by the first of these in that order");
        DUE.refused(x, "a fifth that can't be", -1, () -> x.ground(100, 1, 2, 3));
        DUE.refused(x, "a fifth that can't be", -1, () -> x.ground(50, 5, 5, 1));
        DUE.says("nothing that was ahead of a ground() that was not REFUSED can be undone");
        DUE.is("undo() behind REFUSED ones", x.undo(), 0);
        DUE.is("the fourth is as it was", x.at(3, 0), 40);
    }

    private static void atNone() {
        DUE.says("Promise 5: NONE");
        WhaleLays x = new WhaleLays();
        x.ground(9, 1, 2, 3);
        x.ground(8, 3, 2, 1);
        x.ground(7, 3, 2, 1);
        for (int what = 0; what < 5; what++) {
            int asked = what;
            DUE.all("no such GROUND, what " + what, -1, () -> x.at(3, asked), () -> x.at(4, asked), () -> x.at(-1, asked),
                () -> x.at(LEAST, asked), () -> x.at(MOST, asked));
        }
        DUE.all("no such what", -1, () -> x.at(0, -1), () -> x.at(0, 5), () -> x.at(0, LEAST), () -> x.at(0, MOST));
        x.ground(6, 3, 2, 1);
        DUE.is("the last GROUND", x.at(3, 0), 6);
        DUE.is("behind the last", x.at(4, 0), -1);
        DUE.is("these are not REFUSED", x.status() + x.count(7) + x.count(8), 0);
    }

    private static void prices() {
        DUE.says("PRICES of a cask in YEARS 0 .. 5: 0 .. 99 (10 at first)");
        WhaleLays x = sailed();
        DUE.refused(x, "price(-1, 10)", -1, () -> x.price(-1, 10));
        DUE.refused(x, "price(6, 10)", -1, () -> x.price(6, 10));
        DUE.refused(x, "price(0, -1)", -1, () -> x.price(0, -1));
        DUE.refused(x, "price(5, 100)", -1, () -> x.price(5, 100));
        DUE.refused(x, "price(least, 1)", -1, () -> x.price(LEAST, 1));
        DUE.refused(x, "price(most, 1)", -1, () -> x.price(MOST, 1));
        DUE.refused(x, "price(0, least)", -1, () -> x.price(0, LEAST));
        DUE.refused(x, "price(0, most)", -1, () -> x.price(0, MOST));
        for (int year = 0; year < 6; year++) {
            DUE.is("10 at first", x.price(year, 0), 10);
            DUE.is("status()", x.status(), 0);
            DUE.is("0 it was", x.price(year, 99), 0);
            DUE.is("99 it was", x.price(year, 99), 99);
            DUE.is("99 it is", x.count(18 + year), 99);
        }
        DUE.is("price() is not in the way of undo()", x.undo(), 0);
    }

    private static void years() {
        DUE.says("a YEAR has twelve MONTHS");
        WhaleLays x = sailed();
        for (int year = 0; year < 6; year++) {
            x.price(year, 11 + year);
        }
        for (int year = 0; year < 6; year++) {
            x.terms(0, 12 * year);
            DUE.is("the first MONTH of YEAR " + year, x.money(0), 20 * (11 + year));
            x.terms(0, 12 * year + 11);
            DUE.is("the last MONTH of YEAR " + year, x.money(0), 20 * (11 + year));
        }
    }

    private static void month() {
        DUE.says("0 MONTH 0 .. 71 (0 at first)");
        WhaleLays x = sailed();
        DUE.refused(x, "terms(0, -1)", -1, () -> x.terms(0, -1));
        DUE.refused(x, "terms(0, 72)", -1, () -> x.terms(0, 72));
        DUE.refused(x, "terms(0, least)", -1, () -> x.terms(0, LEAST));
        DUE.refused(x, "terms(0, most)", -1, () -> x.terms(0, MOST));
        DUE.is("REFUSED ones are not in the way of undo()", x.undo(), 0);
        DUE.is("0 it was", x.terms(0, 71), 0);
        DUE.is("71 it is", x.count(15), 71);
        DUE.is("71 it was", x.terms(0, 0), 71);
        DUE.is("0 it is", x.count(15), 0);
        DUE.is("0 it was, which is no refusal", x.terms(0, 0), 0);
        DUE.is("status()", x.status(), 0);
    }

    private static void hold() {
        DUE.says("1 HOLD 1 .. 999, OIL at least (200)");
        WhaleLays x = new WhaleLays();
        DUE.refused(x, "terms(1, 0)", -1, () -> x.terms(1, 0));
        DUE.refused(x, "terms(1, -1)", -1, () -> x.terms(1, -1));
        DUE.refused(x, "terms(1, 1000)", -1, () -> x.terms(1, 1000));
        DUE.refused(x, "terms(1, least)", -1, () -> x.terms(1, LEAST));
        DUE.refused(x, "terms(1, most)", -1, () -> x.terms(1, MOST));
        DUE.is("200 at first", x.terms(1, 1), 200);
        DUE.is("1 it was", x.terms(1, 999), 1);
        DUE.is("999 it was", x.terms(1, 200), 999);
        WhaleLays y = sailed();
        DUE.refused(y, "less than OIL", -1, () -> y.terms(1, 19));
        DUE.is("as much as OIL", y.terms(1, 20), 200);
        DUE.is("OIL stays", y.count(13), 20);
        y.sell(1);
        DUE.is("as much as OIL", y.terms(1, 19), 20);
        y.sell(19);
        DUE.is("without OIL 1 is the least", y.terms(1, 1), 19);
        DUE.refused(y, "without OIL 0", -1, () -> y.terms(1, 0));
    }

    private static void mood() {
        DUE.says("2 MOOD 0 .. 9 (0)");
        WhaleLays x = new WhaleLays();
        DUE.refused(x, "terms(2, -1)", -1, () -> x.terms(2, -1));
        DUE.refused(x, "terms(2, 10)", -1, () -> x.terms(2, 10));
        DUE.refused(x, "terms(2, least)", -1, () -> x.terms(2, LEAST));
        DUE.refused(x, "terms(2, most)", -1, () -> x.terms(2, MOST));
        DUE.is("0 at first", x.terms(2, 9), 0);
        DUE.is("9 it was", x.terms(2, 0), 9);
        DUE.is("0 it is", x.count(17), 0);
    }

    private static void otherTerms() {
        DUE.says("TERMS: 0 MONTH, 1 HOLD, 2 MOOD");
        WhaleLays x = new WhaleLays();
        DUE.refused(x, "terms(-1, 1)", -1, () -> x.terms(-1, 1));
        DUE.refused(x, "terms(3, 1)", -1, () -> x.terms(3, 1));
        DUE.refused(x, "terms(least, 1)", -1, () -> x.terms(LEAST, 1));
        DUE.refused(x, "terms(most, 1)", -1, () -> x.terms(MOST, 1));
    }

    private static void wordsOfPence() {
        DUE.says("Promise 29: A WORD, pence 0 .. 999,999: -1; -2; -5");
        WhaleLays x = manned(2);
        DUE.refused(x, "word(0, -1)", -1, () -> x.word(0, -1));
        DUE.refused(x, "word(0, 1000000)", -1, () -> x.word(0, 1000000));
        DUE.refused(x, "word(0, least)", -1, () -> x.word(0, LEAST));
        DUE.refused(x, "word(0, most)", -1, () -> x.word(0, MOST));
        DUE.refused(x, "word(2, 0)", -2, () -> x.word(2, 0));
        DUE.refused(x, "word(-1, 0)", -2, () -> x.word(-1, 0));
        DUE.refused(x, "word(least, 0)", -2, () -> x.word(LEAST, 0));
        DUE.refused(x, "word(most, 999999)", -2, () -> x.word(MOST, 999999));
        DUE.is("word(0, 0)", x.word(0, 0), 1);
        DUE.is("word(1, 999999)", x.word(1, 999999), 2);
        DUE.says("REFUSED by the first of these in that order");
        DUE.refused(x, "pence that can't be to nobody", -1, () -> x.word(2, -1));
    }

    private static void eightWords() {
        DUE.says("WORDS, 8 at most");
        WhaleLays x = manned(8);
        for (int i = 1; i <= 8; i++) {
            DUE.is("word " + i, x.word(8 - i, 0), i);
        }
        DUE.refused(x, "word 9", -5, () -> x.word(0, 0));
        DUE.says("REFUSED by the first of these in that order");
        DUE.refused(x, "word 9 to nobody", -2, () -> x.word(8, 0));
        DUE.refused(x, "word 9 of pence that can't be", -1, () -> x.word(8, 1000000));
    }

    private static void wordsOfGone() {
        DUE.says("each HAND told (ABOARD or GONE alike)");
        WhaleLays x = sailed();
        x.leave(0);
        DUE.is("word() of one that is GONE", x.word(0, 3), 1);
        DUE.is("status()", x.status(), 0);
        DUE.is("word() is not in the way of undo()", x.undo(), 3);
        DUE.is("and stays", x.count(3), 1);
    }

    private static void forget() {
        DUE.says("Promise 30: WORDS are none then: how many there were");
        WhaleLays x = manned(1);
        DUE.is("none", x.forget(), 0);
        for (int i = 0; i < 8; i++) {
            x.word(0, 999999);
        }
        DUE.refused(x, "no room", -5, () -> x.word(0, 0));
        DUE.is("eight", x.forget(), 8);
        DUE.is("none then", x.count(3), 0);
        DUE.is("status() is not forget()'s", x.status(), -5);
        DUE.is("they tell nothing any more", x.barrels(0), 201);
        DUE.is("none again", x.forget(), 0);
        DUE.is("there is room", x.word(0, 0), 1);
    }
}
