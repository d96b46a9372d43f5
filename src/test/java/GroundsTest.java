/** Promises 4, 5, 10, 11: ground, at, row, spray. */
public final class GroundsTest {
    private static final Due DUE = new Due("GroundsTest");

    public static void main(String[] args) {
        ground();
        at();
        row();
        rowWithoutRoom();
        DUE.close();
    }

    private static void ground() {
        WhaleLays x = new WhaleLays();
        DUE.all("ground can't be", -1, () -> x.ground(-1, 0, 0, 0), () -> x.ground(100, 0, 0, 0),
            () -> x.ground(0, -1, 0, 0), () -> x.ground(0, 0, -1, 0), () -> x.ground(0, 0, 0, -1),
            () -> x.ground(0, 11, 0, 0), () -> x.ground(0, 0, 11, 0), () -> x.ground(0, 0, 0, 11),
            () -> x.ground(0, 4, 4, 3), () -> x.ground(0, Integer.MAX_VALUE, Integer.MAX_VALUE, 2));
        DUE.is("none came", x.count(2), 0);
        DUE.is("ground", x.ground(0, 0, 0, 0), 0);
        DUE.is("ground", x.ground(99, 10, 0, 0), 1);
        DUE.is("ground", x.ground(99, 0, 10, 0), 2);
        DUE.is("ground", x.ground(99, 3, 3, 4), 3);
        DUE.is("no room", x.ground(1, 1, 1, 1), -5);
        DUE.is("a bad number comes first", x.ground(1, 9, 9, 9), -1);
        DUE.is("count", x.count(2), 4);
    }

    private static void at() {
        WhaleLays x = new WhaleLays();
        x.ground(50, 1, 2, 3);
        x.ground(60, 4, 5, 0);
        int[] first = {50, 1, 2, 3, 20};
        int[] second = {60, 4, 5, 0, 20};
        for (int what = 0; what < 5; what++) {
            DUE.is("at(0, " + what + ")", x.at(0, what), first[what]);
            DUE.is("at(1, " + what + ")", x.at(1, what), second[what]);
        }
        x.terms(2, 3);
        x.terms(0, 4);
        Due.rule(x, "casks ground * 50 + whales / 10 + mood + month + crew + hand + lay + debt + served");
        DUE.is("casks by law", x.at(0, 4), 5 + 3 + 4 - 4);
        DUE.is("casks by law", x.at(1, 4), 50 + 6 + 3 + 4 - 4);
        DUE.all("at none", -1, () -> x.at(2, 0), () -> x.at(-1, 0), () -> x.at(0, 5), () -> x.at(0, -1));
    }

    private static void row() {
        WhaleLays x = new WhaleLays();
        DUE.is("row of nothing", x.row(), -6);
        DUE.is("row of nothing: status", x.status(), -6);
        Due.bytes(x, 99, 1, 2, 3, 100, 0, 0, 0, 5, 5, 5, 1, 0, 0, 0, 10, 7, 1);
        DUE.is("row", x.row(), 2);
        DUE.is("spray", x.spray(), 3);
        DUE.is("the tape is empty", x.count(6), 0);
        DUE.is("at(0, 0)", x.at(0, 0), 99);
        DUE.is("at(0, 2)", x.at(0, 2), 2);
        DUE.is("at(1, 3)", x.at(1, 3), 10);
        DUE.is("row is refused", x.row(), -6);
        DUE.is("spray stays", x.spray(), 3);
        Due.bytes(x, 1, 1, 1, 255);
        DUE.is("a byte of 255 is no -1", x.row(), 0);
        DUE.is("spray of it", x.spray(), 1);
        Due.bytes(x, 1, 1, 1, 1);
        DUE.is("row", x.row(), 1);
        DUE.is("no spray", x.spray(), 0);
    }

    private static void rowWithoutRoom() {
        WhaleLays x = new WhaleLays();
        x.ground(1, 1, 1, 1);
        x.ground(1, 1, 1, 1);
        x.sign(1, 0);
        x.hunt(0, 0);
        Due.bytes(x, 1, 1, 1, 1, 2, 1, 1, 1, 3, 1, 1, 1);
        DUE.is("row fills up", x.row(), 2);
        DUE.is("one had no room", x.spray(), 1);
        DUE.is("nothing can be undone", x.undo(), -3);
        x.hunt(0, 0);
        Due.bytes(x, 3, 1, 1, 1);
        DUE.is("row without room", x.row(), 0);
        DUE.is("is not refused", x.status(), 0);
        DUE.is("nothing can be undone behind it", x.undo(), -3);
    }
}
