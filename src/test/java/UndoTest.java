/** Promise 21: undo. */
public final class UndoTest {
    private static final Due DUE = new Due("UndoTest");

    public static void main(String[] args) {
        kinds();
        sixteen();
        barriers();
        refusedOnes();
        DUE.close();
    }

    private static WhaleLays ship() {
        WhaleLays x = new WhaleLays();
        x.sign(10, 7);
        x.sign(20, 0);
        x.ground(9, 0, 0, 0);
        return x;
    }

    private static long sum(WhaleLays x) {
        long sum = 0;
        for (int what : new int[] {0, 1, 2, 3, 4, 12, 13, 14, 15, 16, 17, 18, 19}) {
            sum = sum * 31 + x.count(what);
        }
        for (int h = 0; h < 2; h++) {
            for (int what = 0; what < 4; what++) {
                sum = sum * 31 + x.of(h, what);
            }
        }
        return sum * 31 + x.at(0, 0);
    }

    private static void kinds() {
        WhaleLays x = ship();
        DUE.is("nothing yet", x.undo(), -3);
        DUE.is("status", x.status(), -3);
        Due.rule(x, "deserts if hand = 1 and month = 2");
        long[] sums = new long[6];
        sums[0] = sum(x);
        x.hunt(0, 1);
        sums[1] = sum(x);
        x.hunt(0, 2);
        sums[2] = sum(x);
        x.sell(20);
        sums[3] = sum(x);
        x.advance(0, 30);
        sums[4] = sum(x);
        x.leave(0);
        int[] due = {0, 0, 1, 2, 3};
        for (int i = 4; i >= 0; i--) {
            DUE.is("undo", x.undo(), due[i]);
            DUE.is("as ahead of it", sum(x), sums[i]);
            DUE.is("so many are left", x.count(5), i);
        }
        DUE.is("no more", x.undo(), -3);
        x.hunt(0, 1);
        x.price(0, 77);
        x.force(-1);
        x.word(0, 5);
        Due.law(x, "casks 3");
        x.image(0);
        x.years(1, 5);
        DUE.is("none of these is in its way", x.undo(), 0);
        DUE.is("the price stays", x.count(18), 77);
        DUE.is("the law stays", x.count(4), 2);
        DUE.is("the word stays", x.count(3), 1);
    }

    private static void sixteen() {
        WhaleLays x = ship();
        x.hunt(0, 3);
        for (int i = 0; i < 20; i++) {
            x.sell(1);
            DUE.is("can be undone", x.count(5), Math.min(16, i + 2));
        }
        for (int i = 0; i < 16; i++) {
            DUE.is("undo", x.undo(), 1);
        }
        DUE.is("16 are kept", x.undo(), -3);
        DUE.is("oil", x.count(13), 56);
        for (int i = 0; i < 40; i++) {
            x.sell(1);
            x.undo();
        }
        DUE.is("none is lost or left", x.count(5), 0);
        DUE.is("oil", x.count(13), 56);
    }

    private static void barriers() {
        WhaleLays x = ship();
        x.hunt(0, 1);
        x.sign(5, 5);
        DUE.is("behind sign", x.undo(), -3);
        x.hunt(0, 1);
        x.ground(1, 1, 1, 1);
        DUE.is("behind ground", x.undo(), -3);
        x.hunt(0, 1);
        x.terms(2, 1);
        DUE.is("behind terms", x.undo(), -3);
        x.hunt(0, 1);
        Due.bytes(x, 1, 1, 1, 1);
        x.row();
        DUE.is("behind row", x.undo(), -3);
        x.image(0);
        x.hunt(0, 1);
        x.back(0);
        DUE.is("behind back", x.undo(), -3);
        x.hunt(0, 1);
        DUE.is("behind none of them", x.undo(), 0);
    }

    private static void refusedOnes() {
        WhaleLays x = ship();
        x.hunt(0, 3);
        for (int i = 0; i < 15; i++) {
            x.sell(1);
        }
        x.sign(0, 0);
        x.ground(-1, 0, 0, 0);
        x.terms(0, 72);
        x.row();
        x.back(0);
        x.back(2);
        x.hunt(0, 4);
        x.sell(999);
        x.advance(0, 9999);
        x.leave(5);
        x.undo();
        x.sell(1);
        DUE.is("refused ones count for nothing", x.count(5), 16);
        for (int i = 0; i < 15; i++) {
            DUE.is("undo", x.undo(), 1);
        }
        DUE.is("undo", x.undo(), 0);
        DUE.is("as at first", x.count(13) + x.count(14) + x.count(15), 0);
    }
}
