/** Promises 22, 23: money, parts. */
public final class MoneyTest {
    private static final Due DUE = new Due("MoneyTest");

    public static void main(String[] args) {
        WhaleLays x = new WhaleLays();
        DUE.is("parts of nobody", x.parts(), 0);
        DUE.is("owner of nothing", x.money(1), 0);
        x.sign(3, 100);
        x.sign(7, 0);
        x.ground(9, 0, 0, 0);
        x.hunt(0, 2);
        x.price(0, 13);
        DUE.is("money", x.money(0), 520);
        DUE.is("owner", x.money(1), 520 - 173 - 74);
        DUE.is("share", x.of(0, 7), 173 - 105);
        x.sell(10);
        DUE.is("money is the same", x.money(0), 520);
        x.advance(1, 30);
        DUE.is("money less the advance", x.money(0), 490);
        DUE.is("owner", x.money(1), 490 - 163 - 70);
        x.price(0, 0);
        DUE.is("the purse alone", x.money(0), 100);
        DUE.all("no money", WhaleLays.NOTHING, () -> x.money(2), () -> x.money(-1), () -> x.money(Integer.MAX_VALUE));
        DUE.is("parts", x.parts(), 333333333333L + 142857142857L);
        x.leave(0);
        DUE.is("parts of who is aboard", x.parts(), 142857142857L);
        DUE.is("owner has no whole to leave", x.money(1), 100 - 14);

        WhaleLays y = new WhaleLays();
        for (int i = 0; i < 8; i++) {
            y.sign(1, 0);
        }
        y.ground(9, 0, 0, 0);
        y.hunt(0, 1);
        DUE.is("parts of many", y.parts(), 8000000000000L);
        DUE.is("owner below 0", y.money(1), 200 - 1600);
        DUE.close();
    }
}
