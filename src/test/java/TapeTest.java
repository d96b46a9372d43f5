/** Promises 8, 9: feed, end. */
public final class TapeTest {
    private static final Due DUE = new Due("TapeTest");

    public static void main(String[] args) {
        WhaleLays x = new WhaleLays();
        for (int i = 1; i <= 20; i++) {
            DUE.is("feed", x.feed(0, 0, 0, 0, 0), 20 * i);
        }
        DUE.is("feed beyond 400", x.feed(0, 0, 0, 0, 0), -1);
        DUE.is("it stays", x.count(6), 400);
        DUE.is("end more than there are", x.end(401), -1);
        DUE.is("end below 0", x.end(-1), -1);
        DUE.is("it stays", x.count(6), 400);
        DUE.is("end of all", x.end(400), 400);
        DUE.is("end", x.end(381), 381);
        DUE.is("feed that would be 401", x.feed(0, 0, 0, 0, 0), -1);
        DUE.is("end", x.end(380), 380);
        DUE.is("feed to 400", x.feed(0, 0, 0, 0, 0), 400);
        DUE.is("end at 0", x.end(0), 0);
        DUE.is("it is empty", x.count(6), 0);
        DUE.is("these are not REFUSED", x.count(7), 0);
        DUE.is("status is not theirs", x.status(), 0);

        // the highest byte first, the numbers in order, behind what is there
        x.feed(0x01020304, 0x05010203, 0, 0, 0);
        x.end(8);
        x.feed(0x63000a00, 0x09000001, 0, 0, 0);
        x.end(16);
        DUE.is("row", x.row(), 4);
        int[][] due = {{1, 2, 3, 4}, {5, 1, 2, 3}, {99, 0, 10, 0}, {9, 0, 0, 1}};
        for (int g = 0; g < 4; g++) {
            for (int what = 0; what < 4; what++) {
                DUE.is("at(" + g + ", " + what + ")", x.at(g, what), due[g][what]);
            }
        }
        WhaleLays y = new WhaleLays();
        y.feed(0x01000000, 0x02000000, 0x03000000, 0x04000000, 0x05000000);
        DUE.is("row of the first four", y.row(), 4);
        DUE.is("the fifth finds no room", y.spray(), 1);
        DUE.is("of the fourth", y.at(3, 0), 4);
        DUE.close();
    }
}
