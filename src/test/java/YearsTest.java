/** Promises 33, 34: years, drawn. */
public final class YearsTest {
    private static final Due DUE = new Due("YearsTest");

    public static void main(String[] args) {
        refused();
        draws();
        ends();
        laws();
        DUE.close();
    }

    private static void refused() {
        WhaleLays x = new WhaleLays();
        x.sign(1, 0);
        DUE.all("can't be", -1, () -> x.years(-1, 1), () -> x.years(1000001, 1), () -> x.years(0, 0), () -> x.years(0, 61));
        DUE.is("no grounds", x.years(0, 1), -3);
        DUE.is("status", x.status(), -3);
        DUE.is("none was drawn", x.drawn(0, 1), -1);
        x.ground(99, 10, 0, 0);
        DUE.is("years", x.years(1000000, 60), 0);
        DUE.is("status", x.status(), 0);
        DUE.is("oil", x.drawn(0, 0), 200);
        DUE.is("whales", x.drawn(0, 2), 39);
        DUE.is("month", x.drawn(-7, 1), 60);
        DUE.is("debt", x.drawn(0, 3), 300);
        x.years(-1, 1);
        DUE.is("a refused one is not the latest", x.drawn(0, 1), 60);
        DUE.all("drawn of none", -1, () -> x.drawn(1, 2), () -> x.drawn(-1, 2), () -> x.drawn(1, 3),
            () -> x.drawn(-1, 3), () -> x.drawn(0, 4), () -> x.drawn(0, -1));
        DUE.is("nothing came of it", x.count(15) + x.count(13) + x.of(0, 1), 0);
        x.sign(2, 4);
        DUE.is("the latest had no such hand", x.drawn(1, 3), -1);
        x.years(0, 1);
        DUE.is("this one has", x.drawn(1, 3), 9);
    }

    /** The draws by hand, for three grounds of which one runs dry. */
    private static void draws() {
        int[][] grounds = {{2, 2, 3, 4}, {30, 5, 0, 1}, {40, 0, 9, 0}};
        for (int seed = 0; seed < 40; seed++) {
            WhaleLays x = new WhaleLays();
            x.sign(1, 0);
            x.terms(1, 999);
            for (int[] g : grounds) {
                x.ground(g[0], g[1], g[2], g[3]);
            }
            int[] whales = {2, 30, 40};
            long s = seed;
            int taken = 0;
            for (int i = 0; i < 15; i++) {
                s = (s * 1103 + 12345) % 1000003;
                int g = (int) (s % 3);
                s = (s * 1103 + 12345) % 1000003;
                int d = (int) (s % 10);
                int many = d < grounds[g][3] ? 3 : d < grounds[g][3] + grounds[g][2] ? 2
                    : d < grounds[g][3] + grounds[g][2] + grounds[g][1] ? 1 : 0;
                many = Math.min(many, whales[g]);
                whales[g] -= many;
                taken += many;
            }
            DUE.is("years", x.years(seed, 15), 0);
            DUE.is("oil", x.drawn(0, 0), Math.min(999, 20 * taken));
            for (int g = 0; g < 3; g++) {
                DUE.is("whales", x.drawn(g, 2), whales[g]);
            }
        }
    }

    private static void ends() {
        WhaleLays x = new WhaleLays();
        x.ground(99, 10, 0, 0);
        DUE.is("nobody is aboard", x.years(0, 10), 0);
        DUE.is("no month goes by", x.drawn(0, 1), 0);
        x.sign(1, 0);
        x.terms(0, 65);
        x.years(0, 60);
        DUE.is("till month 71", x.drawn(0, 1), 71);
        DUE.is("six months", x.drawn(0, 0), 120);
        x.terms(0, 71);
        x.years(0, 60);
        DUE.is("none is left", x.drawn(0, 0), 0);
        x.terms(0, 0);
        Due.rule(x, "deserts if served + 65 = 3");
        DUE.is("one goes", x.years(0, 60), 0);
        x.terms(0, 3);
        x.sign(1, 0);
        Due.rule(x, "deserts if month = 9");
        DUE.is("both go", x.years(0, 60), 2);
        DUE.is("it ends then", x.drawn(0, 1), 9);
        DUE.is("both are aboard all the same", x.count(1), 2);
    }

    private static void laws() {
        WhaleLays x = new WhaleLays();
        x.sign(1, 0);
        x.sign(1, 0);
        x.ground(99, 10, 0, 0);
        Due.rule(x, "casks month + 1; eats oil; deserts if month = 2 and hand = 0");
        DUE.is("one is gone", x.years(5, 4), 1);
        DUE.is("laws are asked month by month", x.drawn(0, 0), 1 + 2 + 3 + 4);
        DUE.is("debt of one that went", x.drawn(0, 3), 0 + 1);
        DUE.is("debt of the other", x.drawn(1, 3), 0 + 1 + 3 + 6);
    }
}
