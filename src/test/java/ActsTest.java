/** Promises 17, 18, 19, 20: hunt, sell, advance, leave. */
public final class ActsTest {
    private static final Due DUE = new Due("ActsTest");

    public static void main(String[] args) {
        hunt();
        huntRefused();
        huntByLaws();
        sell();
        advance();
        leave();
        DUE.close();
    }

    private static void hunt() {
        WhaleLays x = new WhaleLays();
        x.sign(10, 9996);
        x.sign(10, 0);
        x.ground(5, 0, 0, 0);
        x.terms(1, 70);
        DUE.is("hunt", x.hunt(0, 3), 0);
        DUE.is("oil", x.count(13), 60);
        DUE.is("whales", x.at(0, 0), 2);
        DUE.is("debt at most", x.of(0, 1), 9999);
        DUE.is("debt", x.of(1, 1), 5);
        DUE.is("the next month", x.count(15), 1);
        DUE.is("hunt", x.hunt(0, 1), 0);
        DUE.is("the hold is full", x.count(13), 70);
        x.leave(1);
        DUE.is("hunt for none", x.hunt(0, 0), 0);
        DUE.is("one that is gone does not eat", x.of(1, 1), 10);
        DUE.is("hunt the last", x.hunt(0, 1), 0);
        DUE.is("no whales", x.at(0, 0), 0);
        DUE.is("full still", x.count(13), 70);
    }

    private static void huntRefused() {
        WhaleLays x = new WhaleLays();
        DUE.is("no ground", x.hunt(0, 0), -2);
        x.ground(2, 0, 0, 0);
        DUE.is("nobody", x.hunt(0, 0), -3);
        x.sign(1, 0);
        DUE.all("bad numbers first", -1, () -> x.hunt(9, 4), () -> x.hunt(0, -1), () -> x.hunt(-1, Integer.MAX_VALUE));
        DUE.all("no such ground", -2, () -> x.hunt(1, 3), () -> x.hunt(-1, 0), () -> x.hunt(Integer.MIN_VALUE, 0));
        DUE.is("more than there are", x.hunt(0, 3), -3);
        DUE.is("as it was", x.count(15), 0);
        x.terms(0, 70);
        DUE.is("month 70", x.hunt(0, 1), 0);
        DUE.is("month 71", x.hunt(0, 1), -3);
        DUE.is("status", x.status(), -3);
        x.terms(0, 0);
        x.leave(0);
        DUE.is("nobody", x.hunt(0, 1), -3);
    }

    private static void huntByLaws() {
        WhaleLays x = new WhaleLays();
        x.sign(10, 10);
        x.sign(20, 0);
        x.sign(30, 0);
        x.ground(50, 0, 0, 0);
        x.ground(60, 0, 0, 0);
        // all is asked as it was ahead, but for who deserts
        Due.rule(x, "casks month + whales - 40; eats oil + debt + month; deserts if month = 1 and crew = 3 and hand > 0");
        DUE.is("two go at once", x.hunt(1, 2), 2);
        DUE.is("oil", x.count(13), 40);
        DUE.is("debt", x.of(0, 1), 20);
        DUE.is("who is aboard", x.of(0, 3) * 4 + x.of(1, 3) * 2 + x.of(2, 3), 4);
        DUE.is("nobody more", x.hunt(0, 1), 0);
        DUE.is("oil", x.count(13), 51);
        DUE.is("debt", x.of(0, 1), 20 + 40 + 20 + 1);
        Due.rule(x, "deserts if debt > 85");
        DUE.is("debt is asked as it is then", x.hunt(0, 0), 1);
        WhaleLays y = new WhaleLays();
        y.sign(1, 0);
        y.sign(1, 0);
        y.ground(9, 0, 0, 0);
        Due.rule(y, "deserts if crew = 2 and oil = 20 and served = 1");
        DUE.is("both: crew is the same for all", y.hunt(0, 1), 2);
    }

    private static void sell() {
        WhaleLays x = new WhaleLays();
        x.sign(1, 0);
        x.ground(99, 0, 0, 0);
        x.terms(1, 999);
        Due.rule(x, "casks 99");
        DUE.all("casks can't be", -1, () -> x.sell(0), () -> x.sell(-1), () -> x.sell(1000));
        DUE.all("more than there are", -3, () -> x.sell(1), () -> x.sell(999));
        x.hunt(0, 3);
        DUE.is("sell", x.sell(297), 2970);
        DUE.is("no oil", x.count(13), 0);
        DUE.is("no more", x.sell(1), -3);
        WhaleLays y = new WhaleLays();
        y.sign(1, 0);
        y.ground(9, 0, 0, 0);
        y.hunt(0, 2);
        y.price(0, 3);
        y.price(1, 4);
        DUE.is("the price of the year", y.sell(10), 30);
        y.terms(0, 12);
        DUE.is("the price of the next year", y.sell(10), 70);
        y.price(1, 0);
        DUE.is("for nothing", y.sell(20), 70);
        DUE.is("none is left", y.sell(1), -3);
        fullPurse();
    }

    private static void fullPurse() {
        WhaleLays x = new WhaleLays();
        x.sign(1, 0);
        x.ground(99, 0, 0, 0);
        x.ground(99, 0, 0, 0);
        x.ground(99, 0, 0, 0);
        x.ground(99, 0, 0, 0);
        x.terms(1, 999);
        x.price(0, 99);
        Due.rule(x, "casks 99; eats 0");
        for (int i = 0; i < 11; i++) {
            x.terms(0, 0);
            // 12 MONTHS at most have this PRICE, 3 whales in each fill the HOLD in four
            Due.orders(x, "hunt " + i / 3 + " for 3 times 4");
            DUE.is("sell", x.sell(999), Math.min(999999, 99 * 999 * (i + 1)));
        }
        DUE.is("the purse is full", x.count(14), 999999);
        DUE.is("money", x.money(0), 999999 + 99 * x.count(13));
    }

    private static void advance() {
        WhaleLays x = new WhaleLays();
        x.sign(1, 9990);
        x.sign(1, 0);
        x.ground(9, 0, 0, 0);
        Due.rule(x, "eats 0");
        x.hunt(0, 2);
        x.sell(40);
        DUE.is("purse", x.count(14), 400);
        DUE.all("pence can't be", -1, () -> x.advance(0, 0), () -> x.advance(9, 10000), () -> x.advance(1, -1));
        DUE.all("no such hand", -2, () -> x.advance(2, 9999), () -> x.advance(-1, 1));
        DUE.is("more than the purse", x.advance(1, 401), -3);
        DUE.is("advance", x.advance(1, 100), 100);
        DUE.is("purse", x.count(14), 300);
        DUE.is("debt at most", x.advance(0, 100), 9999);
        DUE.is("the purse pays all the same", x.count(14), 200);
        x.leave(1);
        DUE.is("gone", x.advance(1, 1), -3);
        DUE.is("all of it", x.advance(0, 200), 9999);
        DUE.is("nothing is left", x.count(14), 0);
        DUE.is("nothing is left", x.advance(0, 1), -3);
    }

    private static void leave() {
        WhaleLays x = new WhaleLays();
        DUE.is("no hand", x.leave(0), -2);
        x.sign(1, 3);
        x.sign(1, 3);
        DUE.is("leave", x.leave(0), 1);
        DUE.is("gone already", x.leave(0), -3);
        DUE.is("status", x.status(), -3);
        DUE.all("no such hand", -2, () -> x.leave(2), () -> x.leave(-1), () -> x.leave(8), () -> x.leave(32));
        DUE.is("leave", x.leave(1), 0);
        DUE.is("hands are counted still", x.count(0), 2);
        DUE.is("one more", x.sign(1, 3), 2);
        DUE.is("aboard", x.count(1), 1);
    }
}
