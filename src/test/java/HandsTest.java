/** Promises 1, 2, 3: a new object, sign, of. */
public final class HandsTest {
    private static final int NOTHING = WhaleLays.NOTHING;
    private static final Due DUE = new Due("HandsTest");

    public static void main(String[] args) {
        newObject();
        sign();
        of();
        DUE.close();
    }

    private static void newObject() {
        WhaleLays x = new WhaleLays();
        int[] due = {0, 0, 0, 0, 0, 0, 0, 0, 0, 0, 0, 0, -1, 0, 0, 0, 200, 0, 10, 10, 10, 10, 10, 10};
        for (int what = 0; what < due.length; what++) {
            DUE.is("new: count(" + what + ")", x.count(what), due[what]);
        }
        DUE.is("new: status()", x.status(), 0);
        DUE.is("new: fault()", x.fault(), -1);
        DUE.is("new: stopped()", x.stopped(), -1);
        DUE.is("new: spray()", x.spray(), 0);
        DUE.is("new: of(0, 0)", x.of(0, 0), NOTHING);
        DUE.is("new: at(0, 0)", x.at(0, 0), -1);
        DUE.is("new: drawn(0, 0)", x.drawn(0, 0), -1);
        WhaleLays y = new WhaleLays();
        x.sign(1, 1);
        DUE.is("objects are apart", y.count(0), 0);
    }

    private static void sign() {
        WhaleLays x = new WhaleLays();
        DUE.all("sign can't be", -1, () -> x.sign(0, 0), () -> x.sign(1000, 0), () -> x.sign(1, -1),
            () -> x.sign(1, 10000), () -> x.sign(Integer.MIN_VALUE, 0), () -> x.sign(1, Integer.MAX_VALUE));
        DUE.is("none joined", x.count(0), 0);
        x.terms(0, 9);
        for (int hand = 0; hand < 8; hand++) {
            DUE.is("sign", x.sign(hand == 0 ? 1 : 999, hand == 0 ? 0 : 9999), hand);
        }
        DUE.is("no room", x.sign(1, 0), -5);
        DUE.is("no room: status", x.status(), -5);
        DUE.is("a bad number comes first", x.sign(0, 0), -1);
        DUE.is("count", x.count(0), 8);
        DUE.is("joined in the month", x.of(7, 2), 9);
    }

    private static void of() {
        WhaleLays x = new WhaleLays();
        x.sign(7, 30);
        x.terms(0, 5);
        x.sign(3, 9999);
        x.ground(9, 0, 0, 0);
        x.hunt(0, 1);
        int[] first = {7, 35, 0, 1, 5, 0, 28, -7};
        int[] second = {3, 9999, 5, 1, 5, 0, 66, 66 - 9999};
        for (int what = 0; what < 8; what++) {
            DUE.is("of(0, " + what + ")", x.of(0, what), first[what]);
            DUE.is("of(1, " + what + ")", x.of(1, what), second[what]);
        }
        Due.rule(x, "eats hand + 10; deserts if lay = 3");
        DUE.is("eats by law", x.of(1, 4), 11);
        DUE.is("deserts by law", x.of(1, 5), 1);
        DUE.is("stays by law", x.of(0, 5), 0);
        x.leave(1);
        int[] gone = {3, 9999, 5, 0, 11, 1, 0, 0};
        for (int what = 0; what < 8; what++) {
            DUE.is("gone: of(1, " + what + ")", x.of(1, what), gone[what]);
        }
        DUE.all("of nothing", NOTHING, () -> x.of(2, 0), () -> x.of(-1, 0), () -> x.of(0, 8), () -> x.of(0, -1),
            () -> x.of(Integer.MIN_VALUE, 3), () -> x.of(Integer.MAX_VALUE, 7));
    }
}
