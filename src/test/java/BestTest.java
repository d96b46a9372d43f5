/** Promises 24, 25: best, odds. */
public final class BestTest {
    private static final Due DUE = new Due("BestTest");

    public static void main(String[] args) {
        home();
        grounds();
        cuts();
        wrongInputs();
        odds();
        oddsCut();
        DUE.close();
    }

    private static void home() {
        WhaleLays x = new WhaleLays();
        x.sign(10, 0);
        x.ground(9, 0, 0, 0);
        x.hunt(0, 2);
        DUE.is("no month", x.best(0, 0), 400000000L);
        DUE.is("home", x.best(0, 1), 100);
        DUE.is("nothing to win", x.best(12, 0), 400000000L);
        DUE.is("home, if that is one of the best", x.best(12, 1), 100);
        x.price(1, 30);
        DUE.is("ten months more are too few", x.best(10, 0), 400000000L);
        DUE.is("the next year's price", x.best(11, 0), 1200000000L);
        DUE.is("so one waits", x.best(11, 1), 0);
        x.sell(10);
        DUE.is("the purse aside", x.best(0, 0), 300000000L);
        x.terms(0, 70);
        x.price(5, 3);
        DUE.is("month 70", x.best(12, 0), 90000000L);
        x.terms(0, 71);
        DUE.is("month 71", x.best(12, 1), 100);
        WhaleLays y = new WhaleLays();
        y.price(0, 99);
        DUE.is("no grounds", y.best(12, 0), 0);
        DUE.is("no grounds", y.best(12, 1), 100);
    }

    private static void grounds() {
        WhaleLays x = new WhaleLays();
        x.sign(10, 0);
        x.ground(50, 5, 0, 0);
        x.ground(50, 0, 0, 5);
        x.ground(50, 0, 0, 5);
        DUE.is("the lowest of the best", x.best(1, 1), 1);
        DUE.is("so much", x.best(1, 0), 300000000L);
        DUE.is("12 months, 200 casks at most: not 12 times that", x.best(12, 0) < 2000000000L ? 1 : 0, 1);
        x.terms(1, 20);
        DUE.is("one cask is all there is room for", x.best(1, 0), 100000000L);
        DUE.is("the lowest", x.best(1, 1), 0);
        DUE.is("two months", x.best(2, 0), 150000000L);
        x.terms(1, 200);
        Due.rule(x, "casks 10 + ground * 10 + month * 50 + [50 - whales] * 50 + oil * 50");
        DUE.is("what laws tell is as now", x.best(2, 0), 2 * 15 * 30 * 10 * 1000000L / 10);
        DUE.is("the last ground", x.best(2, 1), 2);
        x.terms(0, 70);
        Due.rule(x, "casks 10");
        DUE.is("one month is left", x.best(5, 0), x.best(1, 0));
    }

    private static void cuts() {
        WhaleLays x = new WhaleLays();
        x.sign(1, 0);
        x.ground(9, 1, 0, 0);
        x.price(0, 1);
        x.price(1, 1);
        Due.rule(x, "casks 1");
        x.terms(1, 1);
        // the chance that some whale came, in millionths, each month cut
        long due = 0;
        for (int n = 1; n <= 12; n++) {
            due = (9 * due + 1000000) / 10;
            DUE.is("best(" + n + ", 0)", x.best(n, 0), due);
        }
    }

    private static void wrongInputs() {
        WhaleLays x = new WhaleLays();
        x.ground(9, 3, 2, 1);
        DUE.all("best of none", -1, () -> x.best(-1, 0), () -> x.best(13, 0), () -> x.best(1, 2), () -> x.best(1, -1));
        DUE.all("odds of none", -1, () -> x.odds(1, 1, 1), () -> x.odds(-1, 1, 1), () -> x.odds(0, -1, 1),
            () -> x.odds(0, 25, 1), () -> x.odds(0, 1, -1), () -> x.odds(0, 1, 1000));
        DUE.is("these are not REFUSED", x.count(7) + x.count(8), 0);
    }

    private static void odds() {
        WhaleLays x = new WhaleLays();
        x.sign(1, 0);
        x.ground(50, 3, 2, 1);
        DUE.is("one or more", x.odds(0, 1, 1), 600000000000L);
        DUE.is("two or more", x.odds(0, 1, 21), 300000000000L);
        DUE.is("three", x.odds(0, 1, 60), 100000000000L);
        DUE.is("more than can be", x.odds(0, 1, 61), 0);
        DUE.is("in two months", x.odds(0, 2, 100), 40000000000L + 10000000000L);
        DUE.is("no month", x.odds(0, 0, 0), 1000000000000L);
        x.hunt(0, 2);
        DUE.is("with what there is", x.odds(0, 0, 40), 1000000000000L);
        DUE.is("with what there is", x.odds(0, 1, 41), 600000000000L);
        x.terms(1, 50);
        DUE.is("up to the hold", x.odds(0, 1, 50), 600000000000L);
        DUE.is("not beyond the hold", x.odds(0, 24, 51), 0);
        x.terms(1, 999);
        DUE.is("beyond all", x.odds(0, 24, 999), 0 + x.odds(0, 24, 991));
        Due.rule(x, "casks oil");
        DUE.is("what laws tell is as now", x.odds(0, 2, 160), 350000000000L);
    }

    /** Each part is cut: the chance of no whale in n months, 9 of 10 each. */
    private static void oddsCut() {
        WhaleLays x = new WhaleLays();
        x.sign(1, 0);
        x.ground(50, 1, 0, 0);
        x.terms(1, 999);
        long[] chances = new long[25];
        chances[0] = 1000000000000L;
        for (int n = 1; n <= 24; n++) {
            for (int had = n; had > 0; had--) {
                chances[had] = chances[had] * 9 / 10 + chances[had - 1] / 10;
            }
            chances[0] = chances[0] * 9 / 10;
            long some = 0;
            for (int had = 1; had <= n; had++) {
                some += chances[had];
            }
            DUE.is("odds(0, " + n + ", 1)", x.odds(0, n, 1), some);
            DUE.is("odds(0, " + n + ", 0)", x.odds(0, n, 0), some + chances[0]);
        }
    }
}
