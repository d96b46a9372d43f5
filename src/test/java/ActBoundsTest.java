/**
 * The boundary cases of Terms III and of promises 17 to 21, sentence by sentence: hunt, sell,
 * advance, leave, undo.
 */
public final class ActBoundsTest {
    private static final int LEAST = Integer.MIN_VALUE;
    private static final int MOST = Integer.MAX_VALUE;
    private static final Due DUE = new Due("ActBoundsTest");

    public static void main(String[] args) {
        somebodyAboard();
        belowMonth71();
        takenUpTo3();
        noMoreThanThereAre();
        noSuchGround();
        huntFirstInOrder();
        holdAtMost();
        debtAtMost();
        goneDoNotEat();
        askedAsItWasAhead();
        askedAsAllIsThen();
        allDesert();
        intoTheNextYear();
        casksSold();
        pursesAtMost();
        soldByNobody();
        penceAdvanced();
        advanceRefused();
        advanceInOrder();
        advanceDebtAtMost();
        leave();
        undoKinds();
        undoSixteen();
        undoBehindRefused();
        undoWrapsAround();
        undoBarriers();
        undoNoBarriers();
        undoRefusedBarriers();
        undoBehindBack();
        DUE.close();
    }

    /** Two HANDS, GROUNDS of 9 and of 3 whales. */
    private static WhaleLays ship() {
        WhaleLays x = new WhaleLays();
        x.sign(10, 7);
        x.sign(20, 0);
        x.ground(9, 0, 0, 0);
        x.ground(3, 0, 0, 0);
        return x;
    }

    // ---- hunt ----

    private static void somebodyAboard() {
        DUE.says("To HUNT in a GROUND (somebody is ABOARD)");
        WhaleLays none = new WhaleLays();
        none.ground(9, 0, 0, 0);
        DUE.refused(none, "hunt(0, 0) without HANDS", -3, () -> none.hunt(0, 0));
        DUE.refused(none, "hunt(0, 3) without HANDS", -3, () -> none.hunt(0, 3));
        WhaleLays x = ship();
        x.leave(0);
        DUE.is("one is ABOARD", x.hunt(0, 1), 0);
        x.leave(1);
        DUE.refused(x, "hunt(0, 0), all GONE", -3, () -> x.hunt(0, 0));
        x.sign(30, 0);
        DUE.is("the last HAND alone is ABOARD", x.hunt(0, 1), 0);
        WhaleLays y = new WhaleLays();
        y.ground(9, 0, 0, 0);
        for (int hand = 0; hand < 8; hand++) {
            y.sign(1, 0);
        }
        for (int hand = 0; hand < 7; hand++) {
            y.leave(hand);
        }
        DUE.is("the eighth alone is ABOARD", y.hunt(0, 1), 0);
        DUE.is("it ate", y.of(7, 1), 5);
    }

    private static void belowMonth71() {
        DUE.says("To HUNT in a GROUND (MONTH is below 71)");
        WhaleLays x = ship();
        x.terms(0, 70);
        DUE.is("hunt() at MONTH 70", x.hunt(0, 1), 0);
        DUE.is("MONTH", x.count(15), 71);
        DUE.refused(x, "hunt(0, 1) at MONTH 71", -3, () -> x.hunt(0, 1));
        DUE.refused(x, "hunt(0, 0) at MONTH 71", -3, () -> x.hunt(0, 0));
        DUE.is("undo() of what led there", x.undo(), 0);
        DUE.is("MONTH", x.count(15), 70);
        DUE.is("hunt() again", x.hunt(0, 0), 0);
        x.terms(0, 69);
        DUE.is("hunt() at MONTH 69", x.hunt(0, 0), 0);
        DUE.is("and at MONTH 70", x.hunt(0, 0), 0);
    }

    private static void takenUpTo3() {
        DUE.says("so many whales 0 .. 3 being taken");
        WhaleLays x = ship();
        DUE.refused(x, "hunt(0, -1)", -1, () -> x.hunt(0, -1));
        DUE.refused(x, "hunt(0, 4)", -1, () -> x.hunt(0, 4));
        DUE.refused(x, "hunt(0, least)", -1, () -> x.hunt(0, LEAST));
        DUE.refused(x, "hunt(0, most)", -1, () -> x.hunt(0, MOST));
        int[] whales = {9, 8, 6, 3};
        for (int taken = 0; taken <= 3; taken++) {
            DUE.is("hunt(0, " + taken + ")", x.hunt(0, taken), 0);
            DUE.is("WHALES", x.at(0, 0), whales[taken]);
            DUE.is("OIL", x.count(13), 20 * (9 - whales[taken]));
            DUE.is("MONTH", x.count(15), taken + 1);
            DUE.is("those of the other GROUND stay", x.at(1, 0), 3);
        }
    }

    private static void noMoreThanThereAre() {
        DUE.says("no more than there are");
        for (int there = 0; there <= 4; there++) {
            WhaleLays x = new WhaleLays();
            x.sign(1, 0);
            x.ground(there, 0, 0, 0);
            for (int taken = there + 1; taken <= 3; taken++) {
                int many = taken;
                DUE.refused(x, "hunt(0, " + taken + ") of " + there, -3, () -> x.hunt(0, many));
            }
            DUE.is("all of " + there, x.hunt(0, Math.min(3, there)), 0);
            DUE.is("WHALES left", x.at(0, 0), Math.max(0, there - 3));
            DUE.is("none can always be taken", x.hunt(0, 0), 0);
        }
    }

    private static void noSuchGround() {
        DUE.says("REFUSED by -2 there is no such GROUND");
        WhaleLays x = ship();
        DUE.refused(x, "hunt(2, 0) of two", -2, () -> x.hunt(2, 0));
        DUE.refused(x, "hunt(3, 0) of two", -2, () -> x.hunt(3, 0));
        DUE.refused(x, "hunt(-1, 0)", -2, () -> x.hunt(-1, 0));
        DUE.refused(x, "hunt(least, 3)", -2, () -> x.hunt(LEAST, 3));
        DUE.refused(x, "hunt(most, 3)", -2, () -> x.hunt(MOST, 3));
        x.ground(1, 0, 0, 0);
        x.ground(1, 0, 0, 0);
        DUE.is("the fourth", x.hunt(3, 1), 0);
        DUE.refused(x, "the fifth", -2, () -> x.hunt(4, 0));
    }

    private static void huntFirstInOrder() {
        DUE.says("REFUSED by the first of these in that order");
        WhaleLays x = new WhaleLays();
        x.terms(0, 71);
        DUE.refused(x, "4 whales, no GROUND, nobody, MONTH 71", -1, () -> x.hunt(0, 4));
        DUE.refused(x, "-1 whales, GROUND -1", -1, () -> x.hunt(-1, -1));
        DUE.refused(x, "no GROUND, nobody, MONTH 71", -2, () -> x.hunt(0, 1));
        x.ground(0, 0, 0, 0);
        DUE.refused(x, "nobody, no whales, MONTH 71", -3, () -> x.hunt(0, 1));
        x.sign(1, 0);
        DUE.refused(x, "no whales, MONTH 71", -3, () -> x.hunt(0, 1));
        x.terms(0, 70);
        DUE.refused(x, "no whales", -3, () -> x.hunt(0, 1));
        DUE.is("hunt(0, 0)", x.hunt(0, 0), 0);
    }

    private static void holdAtMost() {
        DUE.says("OIL is more by CASKS for each (HOLD at most), WHALES are less");
        for (int hold = 58; hold <= 62; hold++) {
            WhaleLays x = ship();
            x.terms(1, hold);
            x.hunt(0, 3);
            DUE.is("60 casks in a HOLD of " + hold, x.count(13), Math.min(60, hold));
            x.hunt(1, 3);
            DUE.is("60 more", x.count(13), hold);
            DUE.is("WHALES are less all the same", x.at(1, 0), 0);
            x.undo();
            DUE.is("undone", x.count(13), Math.min(60, hold));
        }
        WhaleLays x = ship();
        x.terms(1, 1);
        x.hunt(0, 1);
        DUE.is("a HOLD of 1", x.count(13), 1);
        x.hunt(0, 0);
        DUE.is("none taken, it stays full", x.count(13), 1);
        x.terms(1, 999);
        Due.rule(x, "casks 99");
        for (int i = 0; i < 2; i++) {
            x.hunt(0, 3);
        }
        x.ground(99, 0, 0, 0);
        x.hunt(2, 3);
        DUE.is("892 of 999", x.count(13), 1 + 3 * 297);
        x.hunt(2, 1);
        DUE.is("991 of 999", x.count(13), 991);
        x.hunt(2, 1);
        DUE.is("999 of 999", x.count(13), 999);
    }

    private static void debtAtMost() {
        DUE.says("each HAND ABOARD has DEBT more by what it EATS (9,999 at most)");
        WhaleLays x = new WhaleLays();
        int[] debts = {0, 9993, 9994, 9995, 9998, 9999};
        for (int debt : debts) {
            x.sign(1, debt);
        }
        x.ground(9, 0, 0, 0);
        x.hunt(0, 0);
        for (int hand = 0; hand < debts.length; hand++) {
            DUE.is("5 more than " + debts[hand], x.of(hand, 1), Math.min(9999, debts[hand] + 5));
        }
        Due.rule(x, "eats 99");
        x.hunt(0, 0);
        DUE.is("99 more than 5", x.of(0, 1), 104);
        DUE.is("99 more than 9,998", x.of(1, 1), 9999);
        Due.rule(x, "eats 0");
        x.hunt(0, 0);
        DUE.is("0 more than 104", x.of(0, 1), 104);
        DUE.is("0 more than 9,999", x.of(5, 1), 9999);
    }

    private static void goneDoNotEat() {
        DUE.says("each HAND ABOARD has DEBT more");
        WhaleLays x = ship();
        x.leave(0);
        x.hunt(0, 1);
        DUE.is("GONE", x.of(0, 1), 7);
        DUE.is("ABOARD", x.of(1, 1), 5);
        Due.rule(x, "deserts");
        DUE.is("one that DESERTS then", x.hunt(0, 0), 1);
        DUE.is("has eaten ahead of that", x.of(1, 1), 10);
    }

    private static void askedAsItWasAhead() {
        DUE.says("all this asked as it was ahead");
        WhaleLays x = ship();
        // whales, oil, month, crew as ahead: not one of the three whales is asked anew
        Due.rule(x, "casks whales + oil + month; eats debt + oil + month + crew");
        x.hunt(0, 3);
        DUE.is("three whales of 9 each", x.count(13), 27);
        DUE.is("the first's DEBT 7 + [7 + 0 + 0 + 2]", x.of(0, 1), 16);
        DUE.is("the second's DEBT 0 + [0 + 0 + 0 + 2]", x.of(1, 1), 2);
        x.hunt(0, 2);
        DUE.is("two whales of 6 + 27 + 1", x.count(13), 27 + 68);
        DUE.is("the first's DEBT 16 + [16 + 27 + 1 + 2]", x.of(0, 1), 62);
        DUE.is("the second's DEBT 2 + [2 + 27 + 1 + 2]", x.of(1, 1), 34);
    }

    private static void askedAsAllIsThen() {
        DUE.says("then all HANDS ABOARD that DESERT (asked as all is then) are GONE");
        String[] now = {"month = 1", "oil = 20", "debt = 12", "served = 1", "crew = 2", "whales = 0-1", "ground = 0-1"};
        String[] ahead = {"month = 0", "oil = 0", "debt = 7", "served = 0", "crew = 1", "whales = 9", "ground = 0"};
        for (int i = 0; i < now.length; i++) {
            WhaleLays x = ship();
            Due.rule(x, "deserts if hand = 0 and " + now[i]);
            DUE.is("deserts if " + now[i], x.hunt(0, 1), 1);
            DUE.is("is GONE", x.of(0, 3), 0);
            WhaleLays y = ship();
            Due.rule(y, "deserts if hand = 0 and " + ahead[i]);
            DUE.is("deserts if " + ahead[i], y.hunt(0, 1), 0);
            DUE.is("is ABOARD", y.of(0, 3), 1);
        }
    }

    private static void allDesert() {
        DUE.says("Promise 17: how many HANDS are GONE by it");
        for (int going = 0; going <= 8; going++) {
            WhaleLays x = new WhaleLays();
            for (int hand = 0; hand < 8; hand++) {
                x.sign(1, 0);
            }
            x.ground(9, 0, 0, 0);
            Due.rule(x, "deserts if hand < " + going + " and crew = 8");
            DUE.is(going + " of 8", x.hunt(0, 0), going);
            DUE.is("ABOARD", x.count(1), 8 - going);
            DUE.is("HANDS", x.count(0), 8);
        }
        WhaleLays x = ship();
        x.leave(0);
        Due.rule(x, "deserts");
        DUE.is("who was GONE is not counted", x.hunt(0, 1), 1);
        DUE.refused(x, "then nobody is ABOARD", -3, () -> x.hunt(0, 1));
        DUE.is("undo()", x.undo(), 0);
        DUE.is("one is back", x.count(1), 1);
        DUE.is("the other is not", x.of(0, 3), 0);
    }

    private static void intoTheNextYear() {
        DUE.says("It is the next MONTH (a YEAR has twelve MONTHS)");
        WhaleLays x = ship();
        x.price(0, 11);
        x.price(1, 22);
        x.terms(0, 10);
        x.hunt(0, 1);
        DUE.is("MONTH 11", x.money(0), 220);
        DUE.is("sell() at MONTH 11", x.sell(10), 110);
        x.hunt(0, 0);
        DUE.is("MONTH 12", x.money(0), 110 + 220);
        DUE.is("sell() at MONTH 12", x.sell(10), 110 + 220);
        x.undo();
        x.undo();
        DUE.is("MONTH 11 again", x.sell(10), 220);
        x.price(5, 33);
        x.terms(0, 70);
        x.hunt(0, 1);
        DUE.is("MONTH 71 is of YEAR 5", x.sell(20), 220 + 660);
    }

    // ---- sell ----

    private static void casksSold() {
        DUE.says("Promise 18: To SELL 1 .. 999 casks: the PURSE then. -1; -3");
        WhaleLays x = ship();
        x.hunt(0, 1);
        DUE.refused(x, "sell(0)", -1, () -> x.sell(0));
        DUE.refused(x, "sell(-1)", -1, () -> x.sell(-1));
        DUE.refused(x, "sell(1000)", -1, () -> x.sell(1000));
        DUE.refused(x, "sell(least)", -1, () -> x.sell(LEAST));
        DUE.refused(x, "sell(most)", -1, () -> x.sell(MOST));
        DUE.refused(x, "sell(21) of 20", -3, () -> x.sell(21));
        DUE.refused(x, "sell(999) of 20", -3, () -> x.sell(999));
        DUE.is("sell(1)", x.sell(1), 10);
        DUE.refused(x, "sell(20) of 19", -3, () -> x.sell(20));
        DUE.is("sell(19) of 19", x.sell(19), 200);
        DUE.is("OIL", x.count(13), 0);
        DUE.refused(x, "sell(1) of none", -3, () -> x.sell(1));
        DUE.says("PURSE is more by the PRICE of the YEAR for each: PRICES 0 .. 99");
        x.hunt(0, 2);
        x.price(0, 0);
        DUE.is("at 0", x.sell(1), 200);
        DUE.is("which is no refusal", x.status(), 0);
        DUE.is("OIL is less all the same", x.count(13), 39);
        x.price(0, 99);
        DUE.is("at 99", x.sell(1), 299);
    }

    /** 999 casks for 99 pence each are 98,901 pence: ten times that are 989,010. */
    private static WhaleLays rich() {
        WhaleLays x = new WhaleLays();
        x.sign(1, 0);
        x.sign(1, 9990);
        for (int ground = 0; ground < 4; ground++) {
            x.ground(99, 0, 0, 0);
        }
        x.terms(1, 999);
        x.price(0, 99);
        Due.rule(x, "casks 99; eats 0");
        for (int i = 0; i < 10; i++) {
            x.terms(0, 0);
            Due.orders(x, "hunt " + i / 3 + " for 3 times 4; sell 999");
        }
        x.terms(0, 0);
        Due.orders(x, "hunt 3 for 3 times 2");
        return x;
    }

    private static void pursesAtMost() {
        DUE.says("PURSE is more by the PRICE of the YEAR for each (999,999 at most)");
        WhaleLays x = rich();
        DUE.is("PURSE", x.count(14), 989010);
        DUE.is("OIL", x.count(13), 594);
        // 10,989 pence are wanting: 111 casks for 99
        x.image(0);
        DUE.is("one cask too few", x.sell(110), 999900);
        DUE.is("just as much", x.sell(1), 999999);
        DUE.is("a full PURSE", x.sell(1), 999999);
        DUE.is("OIL is less all the same", x.count(13), 594 - 112);
        DUE.is("undo()", x.undo(), 1);
        DUE.is("PURSE", x.count(14), 999999);
        DUE.is("OIL", x.count(13), 594 - 111);
        x.undo();
        DUE.is("PURSE", x.count(14), 999900);
        x.back(0);
        DUE.is("one cask too many", x.sell(112), 999999);
        x.undo();
        DUE.is("as it was", x.count(14), 989010);
        DUE.is("all of it", x.sell(594), 999999);
        DUE.is("OIL", x.count(13), 0);
        DUE.says("pence of the PURSE (999,999 at most)");
        DUE.is("an advance() of a full PURSE", x.advance(0, 9999), 9999);
        DUE.is("PURSE", x.count(14), 990000);
        DUE.is("9,999 more, DEBT at most", x.advance(1, 9999), 9999);
        DUE.is("the PURSE pays all of it", x.count(14), 980001);
    }

    private static void soldByNobody() {
        DUE.says("To SELL casks (nobody need be ABOARD, at any MONTH)");
        WhaleLays x = ship();
        x.terms(0, 70);
        x.hunt(0, 1);
        x.leave(0);
        x.leave(1);
        DUE.is("sell() at MONTH 71, all GONE", x.sell(20), 200);
        DUE.is("status()", x.status(), 0);
    }

    // ---- advance, leave ----

    private static void penceAdvanced() {
        DUE.says("Promise 19: To ADVANCE 1 .. 9,999 pence: DEBT then. -1; -2; -3");
        WhaleLays x = ship();
        x.hunt(0, 1);
        x.sell(20);
        DUE.refused(x, "advance(0, 0)", -1, () -> x.advance(0, 0));
        DUE.refused(x, "advance(0, -1)", -1, () -> x.advance(0, -1));
        DUE.refused(x, "advance(0, 10000)", -1, () -> x.advance(0, 10000));
        DUE.refused(x, "advance(0, least)", -1, () -> x.advance(0, LEAST));
        DUE.refused(x, "advance(0, most)", -1, () -> x.advance(0, MOST));
        DUE.says("pence of the PURSE");
        DUE.refused(x, "201 of 200", -3, () -> x.advance(0, 201));
        DUE.refused(x, "9,999 of 200", -3, () -> x.advance(0, 9999));
        DUE.is("1 of 200", x.advance(0, 1), 13);
        DUE.refused(x, "200 of 199", -3, () -> x.advance(0, 200));
        DUE.is("199 of 199", x.advance(1, 199), 204);
        DUE.is("PURSE", x.count(14), 0);
        DUE.refused(x, "1 of none", -3, () -> x.advance(0, 1));
    }

    private static void advanceRefused() {
        DUE.says("REFUSED by -2 there is no such HAND; to a HAND ABOARD");
        WhaleLays x = ship();
        x.hunt(0, 1);
        x.sell(20);
        DUE.refused(x, "advance(2, 1) of two", -2, () -> x.advance(2, 1));
        DUE.refused(x, "advance(8, 1)", -2, () -> x.advance(8, 1));
        DUE.refused(x, "advance(-1, 1)", -2, () -> x.advance(-1, 1));
        DUE.refused(x, "advance(32, 1)", -2, () -> x.advance(32, 1));
        DUE.refused(x, "advance(least, 1)", -2, () -> x.advance(LEAST, 1));
        DUE.refused(x, "advance(most, 1)", -2, () -> x.advance(MOST, 1));
        x.leave(0);
        DUE.refused(x, "to one that is GONE", -3, () -> x.advance(0, 1));
        DUE.is("to the one ABOARD", x.advance(1, 1), 6);
    }

    private static void advanceInOrder() {
        DUE.says("REFUSED by the first of these in that order");
        WhaleLays x = ship();
        x.leave(1);
        DUE.refused(x, "0 pence to nobody", -1, () -> x.advance(2, 0));
        DUE.refused(x, "10,000 pence to one GONE", -1, () -> x.advance(1, 10000));
        DUE.refused(x, "more than the PURSE to nobody", -2, () -> x.advance(2, 1));
        DUE.refused(x, "more than the PURSE to one GONE", -3, () -> x.advance(1, 1));
    }

    private static void advanceDebtAtMost() {
        DUE.says("DEBT is as much more (9,999 at most)");
        WhaleLays x = new WhaleLays();
        x.sign(1, 9989);
        x.sign(1, 9989);
        x.sign(1, 9989);
        x.ground(9, 0, 0, 0);
        Due.rule(x, "eats 0");
        x.hunt(0, 1);
        x.sell(20);
        DUE.is("9 more", x.advance(0, 9), 9998);
        DUE.is("10 more", x.advance(1, 10), 9999);
        DUE.is("11 more", x.advance(2, 11), 9999);
        DUE.is("the PURSE pays 30", x.count(14), 170);
        DUE.is("undo()", x.undo(), 2);
        DUE.is("DEBT as it was", x.of(2, 1), 9989);
        DUE.is("PURSE as it was", x.count(14), 181);
        DUE.is("one that owes 9,999 already", x.advance(1, 1), 9999);
        DUE.is("PURSE", x.count(14), 180);
    }

    private static void leave() {
        DUE.says("Promise 20: To LEAVE: how many are ABOARD then. -2; -3");
        WhaleLays x = ship();
        DUE.refused(x, "leave(2) of two", -2, () -> x.leave(2));
        DUE.refused(x, "leave(-1)", -2, () -> x.leave(-1));
        DUE.refused(x, "leave(8)", -2, () -> x.leave(8));
        DUE.refused(x, "leave(32)", -2, () -> x.leave(32));
        DUE.refused(x, "leave(least)", -2, () -> x.leave(LEAST));
        DUE.refused(x, "leave(most)", -2, () -> x.leave(MOST));
        DUE.is("leave(1)", x.leave(1), 1);
        DUE.refused(x, "one that is GONE", -3, () -> x.leave(1));
        DUE.is("the last: none is left", x.leave(0), 0);
        DUE.is("which is no refusal", x.status(), 0);
        DUE.refused(x, "all GONE", -3, () -> x.leave(0));
        DUE.is("undo()", x.undo(), 3);
        DUE.is("one is ABOARD", x.count(1), 1);
        Due.rule(x, "deserts");
        x.hunt(0, 0);
        DUE.refused(x, "one that deserted", -3, () -> x.leave(0));
    }

    // ---- undo ----

    private static void undoKinds() {
        DUE.says("Promise 21: The latest is undone: 0 .. 3. -3 there is none");
        WhaleLays x = ship();
        DUE.refused(x, "undo() ahead of any", -3, () -> x.undo());
        Due.rule(x, "deserts if hand = 1");
        String[] were = new String[5];
        were[0] = Seen.of(x);
        x.hunt(0, 3);
        were[1] = Seen.of(x);
        x.sell(30);
        were[2] = Seen.of(x);
        x.advance(0, 40);
        were[3] = Seen.of(x);
        x.leave(0);
        for (int kind = 3; kind >= 0; kind--) {
            DUE.is("undo()", x.undo(), kind);
            DUE.is("status()", x.status(), 0);
            DUE.same("as ahead of it", Seen.of(x), were[kind]);
        }
        DUE.refused(x, "undo() behind all", -3, () -> x.undo());
    }

    private static void undoSixteen() {
        DUE.says("16 are kept");
        for (int acts = 15; acts <= 18; acts++) {
            WhaleLays x = ship();
            x.hunt(0, 3);
            x.terms(2, 0);
            for (int i = 0; i < acts; i++) {
                x.sell(1);
            }
            int kept = Math.min(16, acts);
            DUE.is("kept of " + acts, x.count(5), kept);
            for (int i = 0; i < kept; i++) {
                DUE.is("undo() " + i + " of " + acts, x.undo(), 1);
                DUE.is("OIL", x.count(13), 60 - acts + i + 1);
            }
            DUE.refused(x, "no more of " + acts, -3, () -> x.undo());
            DUE.is("OIL", x.count(13), 60 - acts + kept);
        }
    }

    private static void undoBehindRefused() {
        DUE.says("16 are kept: what was REFUSED is none of them");
        WhaleLays x = ship();
        String before = Seen.of(x);
        x.hunt(0, 3);
        for (int i = 0; i < 14; i++) {
            x.sell(1);
        }
        x.leave(1);
        DUE.all("REFUSED", -1, () -> x.hunt(0, 4), () -> x.sell(0), () -> x.advance(0, 0));
        DUE.all("REFUSED", -2, () -> x.hunt(9, 0), () -> x.advance(9, 1), () -> x.leave(9));
        DUE.all("REFUSED", -3, () -> x.sell(999), () -> x.advance(0, 9999), () -> x.leave(1), () -> Due.orders(x, "sell 1; leave 1"));
        DUE.is("16 are kept", x.count(5), 16);
        DUE.is("undo()", x.undo(), 3);
        for (int i = 0; i < 14; i++) {
            DUE.is("undo()", x.undo(), 1);
        }
        DUE.is("the oldest one", x.undo(), 0);
        DUE.same("all is as it was", Seen.of(x), before);
    }

    /** Kept and undone by turns, so that what is kept goes round the log more than once. */
    private static void undoWrapsAround() {
        DUE.says("16 are kept: the latest ones, however many there were");
        WhaleLays x = ship();
        x.terms(1, 999);
        Due.rule(x, "casks 99; eats 0");
        x.hunt(0, 3);
        x.terms(2, 0);
        int oil = 297;
        for (int round = 0; round < 6; round++) {
            for (int i = 0; i < 20; i++) {
                x.sell(1);
                oil--;
            }
            for (int i = 0; i < 11; i++) {
                DUE.is("undo()", x.undo(), 1);
                oil++;
            }
            DUE.is("OIL in round " + round, x.count(13), oil);
            DUE.is("kept in round " + round, x.count(5), 5);
        }
    }

    private static void undoBarriers() {
        DUE.says("nothing that was ahead of a sign(), ground(), row(), terms() that was not REFUSED can be undone");
        WhaleLays x = ship();
        x.hunt(0, 1);
        x.sign(1, 0);
        DUE.refused(x, "undo() behind sign()", -3, () -> x.undo());
        x.hunt(0, 1);
        x.ground(1, 0, 0, 0);
        DUE.refused(x, "undo() behind ground()", -3, () -> x.undo());
        x.hunt(0, 1);
        Due.bytes(x, 1, 0, 0, 0);
        x.row();
        DUE.refused(x, "undo() behind row()", -3, () -> x.undo());
        x.hunt(0, 1);
        Due.bytes(x, 1);
        DUE.is("row() of SPRAY alone is not REFUSED", x.row(), 0);
        DUE.refused(x, "undo() behind row() of SPRAY alone", -3, () -> x.undo());
        for (int what = 0; what < 3; what++) {
            x.hunt(0, 0);
            x.terms(what, x.count(15 + what));
            DUE.refused(x, "undo() behind terms() of what it was", -3, () -> x.undo());
        }
        x.leave(0);
        DUE.is("what came behind them can", x.undo(), 3);
        DUE.refused(x, "that alone", -3, () -> x.undo());
    }

    private static void undoNoBarriers() {
        DUE.says("ahead of a sign(), ground(), row(), terms(): of no others");
        WhaleLays x = ship();
        x.hunt(0, 1);
        x.price(0, 44);
        Due.law(x, "casks 3");
        x.force(0);
        x.word(0, 0);
        x.forget();
        x.image(0);
        x.years(0, 3);
        x.feed(0, 0, 0, 0, 0);
        x.end(0);
        Due.law(x, "?");
        Due.orders(x, "?");
        Due.orders(x, "leave 9");
        Due.orders(x, "leave 0 if 1 = 2");
        x.best(12, 0);
        x.odds(0, 24, 50);
        x.left(0);
        x.ask(0);
        DUE.is("count(5)", x.count(5), 1);
        DUE.is("undo()", x.undo(), 0);
        DUE.is("OIL", x.count(13), 0);
        DUE.is("PRICE stays", x.count(18), 44);
        DUE.is("FORCE stays", x.count(12), 0);
    }

    private static void undoRefusedBarriers() {
        DUE.says("that was not REFUSED");
        WhaleLays x = ship();
        x.ground(0, 0, 0, 0);
        x.ground(0, 0, 0, 0);
        for (int i = 0; i < 6; i++) {
            x.sign(1, 0);
        }
        x.hunt(0, 1);
        DUE.all("REFUSED", -1, () -> x.sign(0, 0), () -> x.ground(-1, 0, 0, 0), () -> x.terms(0, 72), () -> x.terms(1, 19),
            () -> x.terms(2, 10), () -> x.terms(3, 0));
        DUE.all("REFUSED", -5, () -> x.sign(1, 0), () -> x.ground(1, 0, 0, 0));
        DUE.all("REFUSED", -6, () -> x.row());
        DUE.is("count(5)", x.count(5), 1);
        DUE.is("undo()", x.undo(), 0);
    }

    private static void undoBehindBack() {
        DUE.says("what can be undone (nothing, behind back())");
        WhaleLays x = ship();
        x.hunt(0, 1);
        x.image(0);
        DUE.is("image() keeps it", x.count(5), 1);
        x.leave(0);
        x.back(1);
        x.back(-1);
        DUE.is("REFUSED ones keep it", x.count(5), 2);
        x.back(0);
        DUE.refused(x, "behind back()", -3, () -> x.undo());
        x.leave(0);
        DUE.is("what came behind it", x.undo(), 3);
        DUE.refused(x, "that alone", -3, () -> x.undo());
    }
}
