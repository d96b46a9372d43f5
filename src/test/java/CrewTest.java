/** Promises 26, 27, 28: left, least, crew. */
public final class CrewTest {
    private static final Due DUE = new Due("CrewTest");

    public static void main(String[] args) {
        left();
        least();
        crew();
        DUE.close();
    }

    private static void left() {
        WhaleLays x = new WhaleLays();
        DUE.is("nobody", x.left(0), 0);
        DUE.is("one round", x.left(1), 1);
        for (int hand = 0; hand < 8; hand++) {
            x.sign(100 * (hand + 1), 0);
        }
        DUE.is("all", x.left(0), 255);
        DUE.is("one round", x.left(1), 1);
        // the one with the greatest lay goes first, round by round
        Due.rule(x, "deserts if lay > crew * 100 - 100");
        DUE.is("all go by and by", x.left(0), 0);
        DUE.is("in so many rounds", x.left(1), 9);
        DUE.is("nobody is off by that", x.count(1), 8);
        // one that goes is not counted for those behind it in the same round
        Due.rule(x, "deserts if crew > 5");
        DUE.is("the first three go", x.left(0), 0b11111000);
        DUE.is("two rounds", x.left(1), 2);
        Due.rule(x, "deserts if crew < 8 or hand = 0");
        DUE.is("all in one round", x.left(0), 0);
        DUE.is("and one more", x.left(1), 2);
        x.leave(0);
        x.leave(3);
        Due.rule(x, "deserts if hand = 1 and crew = 6");
        DUE.is("those who are gone aside", x.left(0), 0b11110100);
        DUE.all("left of none", -1, () -> x.left(2), () -> x.left(-1));
    }

    private static void least() {
        WhaleLays x = new WhaleLays();
        x.sign(500, 30);
        x.sign(5, 0);
        DUE.is("without a law", x.least(0), 999);
        Due.rule(x, "deserts if lay > 300 + debt and crew = 2");
        DUE.is("least", x.least(0), 330);
        DUE.is("least", x.least(1), 300);
        Due.rule(x, "deserts if lay > 5 and lay < 900 or lay = 999");
        DUE.is("the greatest, not the first", x.least(0), 998);
        Due.rule(x, "deserts if lay > 1");
        DUE.is("1", x.least(0), 1);
        Due.rule(x, "deserts");
        DUE.is("by none", x.least(0), -1);
        x.force(-1);
        x.leave(1);
        DUE.is("gone", x.least(1), -1);
        DUE.all("no such hand", -1, () -> x.least(2), () -> x.least(-1), () -> x.least(99));
        DUE.is("lay stays", x.of(0, 0), 500);
    }

    private static void crew() {
        WhaleLays x = new WhaleLays();
        x.ground(9, 0, 0, 0);
        DUE.is("nobody", x.crew(0, 1, 0), -1);
        DUE.is("nobody", x.crew(0, 1, 1), -1);
        int[] lays = {10, 30, 20, 30, 7};
        for (int lay : lays) {
            x.sign(lay, 0);
        }
        x.ground(9, 0, 0, 0);
        Due.rule(x, "casks crew * 10 + ground");
        DUE.is("one: the lowest of the cheapest", x.crew(0, 10, 0), 2);
        DUE.is("its lay", x.crew(0, 10, 1), 33333333333L);
        DUE.is("two", x.crew(0, 11, 0), 2 + 8);
        DUE.is("their lays", x.crew(0, 11, 1), 66666666666L);
        DUE.is("of another ground", x.crew(1, 11, 0), 2);
        DUE.is("three", x.crew(0, 30, 0), 2 + 4 + 8);
        DUE.is("all", x.crew(0, 50, 0), 31);
        DUE.is("all", x.crew(0, 50, 1), 100000000000L + 2 * 33333333333L + 50000000000L + 142857142857L);
        DUE.is("none can", x.crew(0, 51, 0), -1);
        DUE.is("none can", x.crew(0, 51, 1), -1);
        x.leave(1);
        DUE.is("who is gone aside", x.crew(0, 10, 0), 8);
        DUE.is("four are left", x.crew(0, 50, 0), -1);
        Due.rule(x, "casks 50 - crew * 10");
        DUE.is("fewer give more", x.crew(0, 40, 0), 8);
        DUE.is("no more than these", x.crew(0, 41, 0), -1);
        DUE.all("crew of none", -1, () -> x.crew(2, 1, 0), () -> x.crew(-1, 1, 0), () -> x.crew(0, 0, 0),
            () -> x.crew(0, 100, 0), () -> x.crew(0, 1, 2), () -> x.crew(0, 1, -1));
        DUE.is("99 can be asked", x.crew(0, 99, 0), -1);
    }
}
