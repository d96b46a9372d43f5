import java.util.function.IntSupplier;

/** Promises 37, 38: count, status. */
public final class CountTest {
    private static final Due DUE = new Due("CountTest");

    public static void main(String[] args) {
        counts();
        refusals();
        status();
        DUE.close();
    }

    private static void counts() {
        WhaleLays x = new WhaleLays();
        x.sign(1, 0);
        x.sign(2, 0);
        x.sign(3, 0);
        x.ground(9, 0, 0, 0);
        x.ground(9, 0, 0, 0);
        x.word(0, 0);
        Due.law(x, "casks 21");
        Due.law(x, "casks 22");
        x.force(1);
        x.terms(1, 333);
        x.terms(2, 8);
        x.hunt(0, 2);
        x.leave(2);
        x.sell(4);
        for (int year = 0; year < 6; year++) {
            x.price(year, 60 + year);
        }
        x.feed(1, 2, 3, 4, 5);
        int[] due = {3, 2, 2, 1, 2, 3, 20, 0, 0, 0, 0, 0, 1, 40, 40, 1, 333, 8, 60, 61, 62, 63, 64, 65};
        for (int what = 0; what < due.length; what++) {
            DUE.is("count(" + what + ")", x.count(what), due[what]);
        }
        DUE.all("count of others", -1, () -> x.count(-1), () -> x.count(24), () -> x.count(Integer.MAX_VALUE),
            () -> x.count(Integer.MIN_VALUE));
    }

    private static void refusals() {
        WhaleLays x = new WhaleLays();
        int[] times = {5, 4, 3, 2, 1};
        for (int i = 0; i < 5; i++) {
            x.sign(0, 0);
        }
        for (int i = 0; i < 4; i++) {
            x.force(4);
        }
        for (int i = 0; i < 3; i++) {
            x.undo();
        }
        for (int i = 0; i < 4; i++) {
            x.ground(0, 0, 0, 0);
        }
        x.ground(0, 0, 0, 0);
        x.ground(0, 0, 0, 0);
        x.row();
        for (int i = 0; i < 5; i++) {
            DUE.is("count(" + (7 + i) + ")", x.count(7 + i), times[i]);
        }
        x.of(9, 9);
        x.at(9, 9);
        x.end(-1);
        x.best(99, 0);
        x.odds(9, 9, 9);
        x.left(9);
        x.least(9);
        x.crew(9, 9, 9);
        x.barrels(9);
        x.ask(9);
        x.drawn(9, 9);
        x.count(99);
        x.money(9);
        for (int i = 0; i < 5; i++) {
            DUE.is("answers of NONE are not REFUSED: count(" + (7 + i) + ")", x.count(7 + i), times[i]);
        }
    }

    private static void sets(String call, IntSupplier refused, int by, IntSupplier other, WhaleLays x) {
        DUE.is(call + " is refused", refused.getAsInt(), by);
        DUE.is("status of " + call, x.status(), by);
        other.getAsInt();
        DUE.is("status is 0 behind " + call, x.status(), 0);
    }

    private static void status() {
        WhaleLays x = new WhaleLays();
        x.sign(9, 0);
        x.ground(9, 9, 0, 0);
        sets("sign", () -> x.sign(0, 0), -1, () -> x.sign(9, 0), x);
        sets("ground", () -> x.ground(-1, 0, 0, 0), -1, () -> x.ground(1, 0, 0, 0), x);
        sets("price", () -> x.price(9, 0), -1, () -> x.price(0, 10), x);
        sets("terms", () -> x.terms(9, 0), -1, () -> x.terms(2, 0), x);
        sets("row", () -> x.row(), -6, () -> {
            x.feed(0, 0, 0, 0, 0);
            x.end(1);
            return x.row();
        }, x);
        sets("law", () -> x.law(), -6, () -> Due.law(x, "casks 20"), x);
        sets("orders", () -> x.orders(), -6, () -> Due.orders(x, "hunt 0 for 1"), x);
        sets("orders", () -> Due.orders(x, "leave 9"), -3, () -> Due.orders(x, "hunt 0 for 1"), x);
        sets("force", () -> x.force(9), -2, () -> x.force(-1), x);
        sets("hunt", () -> x.hunt(9, 0), -2, () -> x.hunt(0, 1), x);
        sets("sell", () -> x.sell(0), -1, () -> x.sell(1), x);
        sets("advance", () -> x.advance(9, 1), -2, () -> x.advance(0, 1), x);
        sets("leave", () -> x.leave(9), -2, () -> x.leave(1), x);
        sets("undo", () -> {
            x.terms(2, 0);
            return x.undo();
        }, -3, () -> {
            x.sell(1);
            return x.undo();
        }, x);
        sets("word", () -> x.word(9, 0), -2, () -> x.word(0, 0), x);
        sets("years", () -> x.years(-1, 1), -1, () -> x.years(1, 1), x);
        sets("image", () -> x.image(9), -1, () -> x.image(0), x);
        sets("back", () -> x.back(1), -2, () -> x.back(0), x);
        x.hunt(9, 0);
        x.feed(0, 0, 0, 0, 0);
        x.end(0);
        x.forget();
        x.count(0);
        x.best(1, 1);
        x.fault();
        x.drawn(0, 0);
        DUE.is("others leave it as it is", x.status(), -2);
    }
}
