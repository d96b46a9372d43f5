/** Promises 12, 14, 16: law, fault, force; what laws tell. */
public final class LawTest {
    private static final Due DUE = new Due("LawTest");

    public static void main(String[] args) {
        laws();
        force();
        faults();
        limits();
        values();
        broken();
        clauses();
        words();
        DUE.close();
    }

    private static void laws() {
        WhaleLays x = new WhaleLays();
        for (int law = 0; law < 6; law++) {
            DUE.is("law", Due.law(x, "casks " + law), law);
        }
        DUE.is("no fault", x.fault(), -1);
        Due.law(x, "?");
        DUE.is("no room comes ahead of reading", x.status(), -5);
        DUE.is("fault is not of that one", x.fault(), -1);
        DUE.is("the tape is empty", x.count(6), 0);
        DUE.is("laws", x.count(4), 6);
        WhaleLays y = new WhaleLays();
        DUE.is("no text", y.law(), -6);
        DUE.is("fault of no text", y.fault(), 0);
        DUE.is("blanks alone", Due.law(y, "   "), -6);
        DUE.is("fault of blanks alone", y.fault(), 3);
        DUE.is("the tape is empty then", y.count(6), 0);
        DUE.is("no law came", y.count(4), 0);
        DUE.is("a law", Due.law(y, "deserts"), 0);
        DUE.is("its fault", y.fault(), -1);
        DUE.is("law leaves what can be undone", y.count(5), 0);
    }

    private static void force() {
        WhaleLays x = new WhaleLays();
        DUE.all("no such law", -2, () -> x.force(0), () -> x.force(-2), () -> x.force(6), () -> x.force(Integer.MAX_VALUE));
        Due.law(x, "casks 1");
        Due.law(x, "casks 2");
        x.ground(1, 0, 0, 0);
        DUE.is("none was", x.force(1), -1);
        DUE.is("not refused", x.status(), 0);
        DUE.is("casks", x.at(0, 4), 2);
        DUE.is("1 was", x.force(0), 1);
        DUE.is("casks", x.at(0, 4), 1);
        DUE.is("refused", x.force(2), -2);
        DUE.is("as it was", x.count(12), 0);
        DUE.is("0 was", x.force(-1), 0);
        DUE.is("casks without", x.at(0, 4), 20);
        DUE.is("none", x.count(12), -1);
    }

    private static void fault(String text, int place) {
        WhaleLays x = new WhaleLays();
        DUE.is("law: " + text, Due.law(x, text), place < 0 ? 0 : -6);
        DUE.is("fault: " + text, x.fault(), place);
    }

    private static void faults() {
        fault("casks", 5);
        fault("casks  ", 7);
        fault("cask 1", 0);
        fault(" Casks 1", 1);
        fault("hunt 0 for 1", 0);
        fault("casks 1 1", 8);
        fault("casks1", -1);
        fault("casks\t1", 5);
        fault("casks 1;", 8);
        fault("casks 1;;", 8);
        fault("; casks 1", 0);
        fault("deserts;eats 1;casks 2", -1);
        fault("deserts 1", 8);
        fault("casks 1 times 2", 8);
        fault("casks - 1", 6);
        fault("casks 1 -", 9);
        fault("casks 1 - - 1", 10);
        fault("casks (1)", 6);
        fault("casks [1", 8);
        fault("casks [1)", 8);
        fault("casks [1]", -1);
        fault("casks [1]]", 9);
        fault("casks []", 7);
        fault("casks 1000", -1);
        fault("casks 01000", -1);
        fault("casks 1001", 6);
        fault("casks 99999999999999999999", 6);
        fault("casks done", 6);
        fault("casks purse", 6);
        fault("casks debt 1", 11);
        fault("casks if 1 = 1", 6);
        fault("deserts if", 10);
        fault("deserts if 1", 12);
        fault("deserts if 1 =", 14);
        fault("deserts if 1 < 2 < 3", 17);
        fault("deserts if (1 < 2", 17);
        fault("deserts if (1 < 2]", 17);
        fault("deserts if (1 < 2) + 1", 19);
        fault("deserts if (1) < 2", 13);
        fault("deserts if [1] < 2", -1);
        fault("deserts if [1 < 2]", 14);
        fault("deserts if not not (not 1 = 2 or 3 > 4) and 5 < 6", -1);
        fault("deserts if not", 14);
        fault("deserts if 1 = 2 or", 19);
        fault("deserts if 1 = 2 and or", 21);
        fault("deserts if 1 = 2 not 3 = 4", 17);
        fault("deserts if 1 = 2 if 3 = 4", 17);
        fault("deserts if 1 <= 2", 14);
        fault("deserts if1=2ornot3=4", 13);
        fault("deserts if 1=2 or not 3=4;deserts", -1);
        fault("casks oilcrew", 6);
        fault("casks oil crew", 10);
        fault("casks 1\u0000", 7);
        fault("casks 1\u00e9", 7);
    }

    private static String many(String first, String each, int count) {
        return first + each.repeat(count);
    }

    private static void limits() {
        fault(many("deserts", ";deserts", 11), -1);
        fault(many("deserts", ";deserts", 12), 8 * 12);
        fault(many("deserts", ";deserts", 11) + ";", 8 * 12);
        fault(many("deserts", ";deserts", 11) + ";  ?", 8 * 12 + 2);
        fault(many("casks 1", "+1", 49), -1);
        fault(many("casks 1", "+1", 50), 8 + 49 * 2 + 1 - 1);
        fault(many("casks 1", "+1", 49) + " if 1 = 1", 7 + 49 * 2 + 4);
        fault(many("casks 1", "+1", 24) + ";" + many("eats oil", "+1", 24) + ";deserts", -1);
        fault(many("casks 1", "+1", 24) + ";" + many("eats oil", "+1", 24) + ";eats mood", 7 + 48 + 1 + 8 + 48 + 1 + 5);
        fault("casks [[[[[[[[1]]]]]]]]", -1);
        fault("casks [[[[[[[[[1]]]]]]]]]", 14);
        fault("deserts if ((((((((1=1))))))))", -1);
        fault("deserts if (((((((((1=1)))))))))", 19);
        fault("deserts if (((([[[[1]]]]=1))))", -1);
        fault("deserts if (((([[[[[1]]]]]=1))))", 19);
        fault("deserts if ((((1=1 and [[[[1]]]]=[[[[[1]]]]]))))", 37);
        fault("deserts if " + "not ".repeat(90) + "1=1", -1);
    }

    /** What one whale gives by a SUM, 20 if it is BROKEN. */
    private static void casks(String sum, int due) {
        WhaleLays x = new WhaleLays();
        Due.rule(x, "casks " + sum);
        x.ground(0, 0, 0, 0);
        DUE.is("casks " + sum, x.at(0, 4), due);
    }

    private static void so(String test, boolean due) {
        WhaleLays x = new WhaleLays();
        Due.rule(x, "deserts if " + test);
        x.sign(1, 0);
        DUE.is("if " + test, x.of(0, 5), due ? 1 : 0);
    }

    private static void values() {
        casks("1 + 2 * 3", 7);
        casks("[1 + 2] * 3", 9);
        casks("20 - 3 - 4", 13);
        casks("100 / 5 / 2", 10);
        casks("17 % 7 * 2", 6);
        casks("50 + [3 - 10] / 2", 47);
        casks("50 + [3 - 10] % 4", 47);
        casks("0", 1);
        casks("0 - 5", 1);
        casks("99", 99);
        casks("100", 99);
        casks("hand + lay + debt + served + 10", 6);
        so("1 < 2", true);
        so("2 < 1", false);
        so("1 < 1", false);
        so("1 > 1", false);
        so("2 > 1", true);
        so("1 = 1", true);
        so("1 = 2", false);
        so("not 1 = 2", true);
        so("not not 1 = 2", false);
        so("1 = 1 or 1 = 1 and 1 = 2", true);
        so("(1 = 1 or 1 = 1) and 1 = 2", false);
        so("not 1 = 1 or 1 = 1", true);
        so("not (1 = 1 or 1 = 1)", false);
        so("1 = 2 or 1 = 2 or 1 = 1", true);
        so("1 = 1 and 1 = 1 and 1 = 2", false);
    }

    private static void broken() {
        casks("1 / 0", 20);
        casks("1 % 0", 20);
        casks("[1000 * 1000 * 1000] / 1000 / 1000 / 100", 10);
        casks("[1000 * 1000 * 1000 + 1] / 1000 / 1000 / 100", 20);
        casks("[0 - 1000 * 1000 * 1000] / 1000 / 1000 / 100 + 50", 40);
        casks("[0 - 1000 * 1000 * 1000 - 1] / 1000 / 1000 / 100 + 50", 20);
        casks("1000 * 1000 * 1000 * 1000 * 0", 20);
        casks("0 * [1 / 0]", 20);
        so("1 / 0 = 1", false);
        so("not 1 / 0 = 1", false);
        so("1 = 1 or 1 / 0 = 1", true);
        so("1 / 0 = 1 or 1 = 1", false);
        so("1 = 2 or 1 / 0 = 1", false);
        so("not (1 = 2 and 1 / 0 = 1)", true);
        so("not (1 = 1 and 1 / 0 = 1)", false);
        so("not (1 / 0 = 1 and 1 = 2)", false);
        so("1 = 2 and 1 / 0 = 1 or 1 = 1", true);
    }

    private static void clauses() {
        WhaleLays x = new WhaleLays();
        x.ground(5, 0, 0, 0);
        x.sign(10, 0);
        Due.rule(x, "casks 7; casks 8; casks 9 if oil > 0; casks 1 / 0; eats 1; eats 2 if crew = 1; eats 3 if 1 / 0 = 1");
        DUE.is("the last that holds", x.at(0, 4), 8);
        DUE.is("the last that holds", x.of(0, 4), 2);
        DUE.is("no clause of that kind", x.of(0, 5), 0);
        Due.rule(x, "deserts if 1 = 1; deserts if 1 = 2");
        DUE.is("one that holds is enough", x.of(0, 5), 1);
        DUE.is("casks without", x.at(0, 4), 20);
        DUE.is("eats without", x.of(0, 4), 5);
        Due.rule(x, "eats 0 - 1");
        DUE.is("eats at least", x.of(0, 4), 0);
        Due.rule(x, "eats 100");
        DUE.is("eats at most", x.of(0, 4), 99);
    }

    private static void words() {
        WhaleLays x = new WhaleLays();
        x.terms(0, 6);
        x.sign(50, 40);
        x.sign(60, 30);
        x.ground(8, 0, 0, 0);
        x.ground(9, 0, 0, 0);
        x.terms(0, 2);
        x.terms(2, 7);
        x.hunt(1, 1);
        x.leave(0);
        String[] words = {"hand", "lay", "debt", "served", "ground", "whales", "oil", "crew", "month", "mood"};
        int[] ofHand = {1, 60, 35, -3, -1, -1, 20, 1, 3, 7};
        int[] ofGround = {-1, -1, -1, -1, 1, 8, 20, 1, 3, 7};
        for (int i = 0; i < words.length; i++) {
            x.image(0);
            Due.rule(x, "eats " + words[i] + " + 10; casks " + words[i] + " + 10");
            DUE.is("eats " + words[i], x.of(1, 4), ofHand[i] + 10);
            DUE.is("casks " + words[i], x.at(1, 4), ofGround[i] + 10);
            x.back(0);
        }
    }
}
