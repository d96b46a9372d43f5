/** Promises 6, 7: price, terms. */
public final class TermsTest {
    private static final Due DUE = new Due("TermsTest");

    public static void main(String[] args) {
        price();
        terms();
        DUE.close();
    }

    private static void price() {
        WhaleLays x = new WhaleLays();
        for (int year = 0; year < 6; year++) {
            DUE.is("price was", x.price(year, year * 9), 10);
            DUE.is("price was then", x.price(year, 99 - year), year * 9);
            DUE.is("price is", x.count(18 + year), 99 - year);
        }
        DUE.is("0 can be", x.price(0, 0), 99);
        DUE.all("price can't be", -1, () -> x.price(-1, 1), () -> x.price(6, 1), () -> x.price(0, -1), () -> x.price(0, 100));
        DUE.is("status", x.status(), -1);
        DUE.is("as it was", x.count(18), 0);
        x.sign(1, 0);
        x.ground(9, 0, 0, 0);
        x.hunt(0, 1);
        x.price(0, 5);
        DUE.is("price leaves what can be undone", x.count(5), 1);
        DUE.is("the first year's", x.money(0), 100);
        x.terms(0, 11);
        DUE.is("still the first year's", x.money(0), 100);
        x.terms(0, 12);
        DUE.is("the second year's", x.money(0), 20 * 98);
        x.terms(0, 71);
        DUE.is("the last year's", x.money(0), 20 * 94);
    }

    private static void terms() {
        WhaleLays x = new WhaleLays();
        DUE.is("month was", x.terms(0, 71), 0);
        DUE.is("month was then", x.terms(0, 3), 71);
        DUE.is("hold was", x.terms(1, 999), 200);
        DUE.is("hold was then", x.terms(1, 1), 999);
        DUE.is("mood was", x.terms(2, 9), 0);
        DUE.is("mood was then", x.terms(2, 0), 9);
        DUE.all("terms can't be", -1, () -> x.terms(0, 72), () -> x.terms(0, -1), () -> x.terms(1, 0),
            () -> x.terms(1, 1000), () -> x.terms(2, -1), () -> x.terms(2, 10), () -> x.terms(3, 1),
            () -> x.terms(-1, 1), () -> x.terms(Integer.MIN_VALUE, 1));
        DUE.is("status", x.status(), -1);
        DUE.is("month stays", x.count(15), 3);
        DUE.is("hold stays", x.count(16), 1);
        DUE.is("mood stays", x.count(17), 0);
        x.terms(1, 100);
        x.sign(1, 0);
        x.ground(9, 0, 0, 0);
        x.hunt(0, 2);
        DUE.is("hold below oil", x.terms(1, 39), -1);
        DUE.is("a refused one leaves what can be undone", x.count(5), 1);
        DUE.is("hold as oil", x.terms(1, 40), 100);
        DUE.is("nothing can be undone behind it", x.count(5), 0);
    }
}
