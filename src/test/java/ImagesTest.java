/** Promises 35, 36: image, back. */
public final class ImagesTest {
    private static final Due DUE = new Due("ImagesTest");

    public static void main(String[] args) {
        refused();
        keepsAll();
        keepsNotThese();
        laws();
        fullShip();
        DUE.close();
    }

    private static void refused() {
        WhaleLays x = new WhaleLays();
        DUE.all("no such number", -1, () -> x.image(2), () -> x.image(-1), () -> x.back(2), () -> x.back(-1));
        DUE.all("not kept", -2, () -> x.back(0), () -> x.back(1));
        DUE.is("status", x.status(), -2);
        DUE.is("image", x.image(1), 0);
        DUE.is("status", x.status(), 0);
        DUE.is("not kept", x.back(0), -2);
        DUE.is("back", x.back(1), 0);
        DUE.is("status", x.status(), 0);
    }

    private static void keepsAll() {
        WhaleLays x = new WhaleLays();
        x.sign(10, 5);
        x.sign(20, 0);
        x.ground(9, 1, 2, 3);
        Due.rule(x, "casks 10");
        x.price(0, 11);
        x.terms(2, 3);
        x.hunt(0, 2);
        x.sell(5);
        x.leave(1);
        x.word(0, 11);
        x.image(0);
        int[] were = new int[24];
        for (int what = 0; what < 24; what++) {
            were[what] = x.count(what);
        }
        x.sign(30, 0);
        x.ground(8, 1, 1, 1);
        Due.rule(x, "casks 30");
        for (int year = 0; year < 6; year++) {
            x.price(year, 50 + year);
        }
        x.hunt(0, 2);
        x.sell(9);
        x.advance(0, 7);
        x.leave(0);
        x.terms(0, 44);
        x.terms(1, 300);
        x.terms(2, 9);
        x.forget();
        x.word(0, 99);
        x.word(0, 99);
        x.image(1);
        DUE.is("back", x.back(0), 0);
        for (int what = 0; what < 24; what++) {
            if (what < 5 || what > 11) {
                DUE.is("as it was: count(" + what + ")", x.count(what), were[what]);
            }
        }
        DUE.is("nothing can be undone", x.count(5), 0);
        DUE.is("hand", x.of(0, 0) + x.of(0, 1) * 100 + x.of(0, 2) * 1000000 + x.of(0, 3) * 10000000, 10 + 1000 + 10000000);
        DUE.is("gone", x.of(1, 3), 0);
        DUE.is("no third", x.of(2, 0), WhaleLays.NOTHING);
        DUE.is("whales", x.at(0, 0), 7);
        DUE.is("casks", x.at(0, 4), 10);
        DUE.is("the words", x.barrels(1), 5);
        x.hunt(0, 1);
        DUE.is("back again", x.back(0), 0);
        DUE.is("images stay", x.count(13), were[13]);
        DUE.is("back to the other", x.back(1), 0);
        DUE.is("its month", x.count(15), 44);
        DUE.is("its hands", x.count(0), 3);
        x.image(0);
        x.back(0);
        DUE.is("kept anew", x.count(15), 44);
    }

    private static void keepsNotThese() {
        WhaleLays x = new WhaleLays();
        x.sign(10, 5);
        x.ground(9, 10, 0, 0);
        x.image(0);
        x.hunt(0, 1);
        x.years(0, 5);
        Due.orders(x, "sell 1; leave 9");
        Due.law(x, "casks ?");
        Due.bytes(x, 100, 0, 0, 0, 0);
        x.row();
        Due.text(x, "casks 1");
        int refused = x.count(9) + x.count(11);
        x.back(0);
        DUE.is("the tape stays", x.count(6), 7);
        DUE.is("fault stays", x.fault(), 6);
        DUE.is("spray stays", x.spray(), 2);
        DUE.is("stopped stays", x.stopped(), 1);
        DUE.is("years stay", x.drawn(0, 1), 6);
        DUE.is("how many were refused stays", x.count(9) + x.count(11), refused);
        DUE.is("it was two", refused, 2);
        DUE.is("nothing can be undone", x.undo(), -3);
        DUE.is("month", x.count(15), 0);
        DUE.is("the tape can be a law", x.law(), 0);
    }

    private static void laws() {
        WhaleLays x = new WhaleLays();
        x.ground(9, 0, 0, 0);
        Due.rule(x, "casks 1");
        x.image(0);
        Due.rule(x, "casks 2");
        x.image(1);
        x.back(0);
        DUE.is("one law", x.count(4), 1);
        Due.rule(x, "casks 3");
        DUE.is("another second one", x.at(0, 4), 3);
        x.back(1);
        DUE.is("the second one of that image", x.at(0, 4), 2);
        DUE.is("which is in force", x.count(12), 1);
        x.back(0);
        DUE.is("none such", x.force(1), -2);
        DUE.is("the first", x.at(0, 4), 1);
        for (int i = 0; i < 5; i++) {
            DUE.is("room for five more", Due.law(x, "casks 4"), i + 1);
        }
        DUE.is("no room", Due.law(x, "casks 4"), -5);
    }

    /** The last of all that there is room for is kept, too. */
    private static void fullShip() {
        WhaleLays x = new WhaleLays();
        for (int hand = 0; hand < 8; hand++) {
            x.sign(10 + hand, 0);
        }
        for (int ground = 0; ground < 4; ground++) {
            x.ground(50 + ground, 1, 2, 3 + ground);
        }
        for (int law = 0; law < 6; law++) {
            Due.rule(x, "casks " + (30 + law));
        }
        for (int i = 0; i < 8; i++) {
            x.word(7, 30);
        }
        int oils = x.barrels(0);
        x.image(0);
        x.forget();
        for (int i = 0; i < 8; i++) {
            x.word(0, i);
        }
        x.hunt(3, 3);
        x.force(0);
        x.back(0);
        DUE.is("the last law", x.at(3, 4), 35);
        DUE.is("the last ground's whales", x.at(3, 0), 53);
        DUE.is("the last ground's odds", x.at(3, 3), 6);
        DUE.is("the last hand's lay", x.of(7, 0), 17);
        DUE.is("the last hand's debt", x.of(7, 1), 0);
        DUE.is("the last words", x.barrels(0), oils);
        DUE.is("so many", oils, 2);
    }
}
