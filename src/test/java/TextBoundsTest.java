/**
 * The boundary cases of Terms II, of ROWS and of promises 8 to 16, sentence by sentence: the tape,
 * what can be read, what is broken, what laws tell, how orders are run.
 */
public final class TextBoundsTest {
    private static final int LEAST = Integer.MIN_VALUE;
    private static final int MOST = Integer.MAX_VALUE;
    private static final Due DUE = new Due("TextBoundsTest");

    public static void main(String[] args) {
        tapeOf400();
        bytesOfNumbers();
        end();
        rowEmpty();
        rowCut();
        rowThatCannotBe();
        rowWithoutRoom();
        rowOf400();
        spray();
        blanks();
        tokens();
        signs();
        faultAtTheEnd();
        textOf400();
        clauses12();
        parts50();
        brackets8();
        numbers();
        comparisons();
        billions();
        dividedBy0();
        cutTowards0();
        canStillMatter();
        casksNearest();
        eatsNearest();
        holds();
        wordsOfLaws();
        laws6();
        lawRefused();
        force();
        faultOfTheLatest();
        times();
        handsAndGrounds();
        partsOfOrders();
        doneAndGone();
        notThere();
        ifIsAsked();
        ordersEmpty();
        ordersToTheEnd();
        ordersWholly();
        ordersAnew();
        undoneInOrders();
        stopped();
        DUE.close();
    }

    private static WhaleLays sailed() {
        WhaleLays x = new WhaleLays();
        x.sign(10, 7);
        x.sign(20, 0);
        x.ground(99, 0, 0, 0);
        x.ground(3, 0, 0, 0);
        x.hunt(0, 3);
        return x;
    }

    // ---- the tape, rows ----

    private static void tapeOf400() {
        DUE.says("Promise 8: NONE, if there would be more than 400");
        WhaleLays x = new WhaleLays();
        for (int i = 1; i <= 20; i++) {
            DUE.is("feed " + i, x.feed(0, 0, 0, 0, 0), 20 * i);
        }
        DUE.is("feed 21", x.feed(0, 0, 0, 0, 0), -1);
        DUE.is("count(6)", x.count(6), 400);
        for (int over = 1; over <= 19; over++) {
            x.end(380 + over);
            DUE.is("feed behind " + (380 + over), x.feed(0, 0, 0, 0, 0), -1);
            DUE.is("none of its bytes came", x.count(6), 380 + over);
            x.end(380);
            DUE.is("feed behind 380", x.feed(0, 0, 0, 0, 0), 400);
        }
        DUE.is("that is not REFUSED: status()", x.status(), 0);
        DUE.is("that is not REFUSED: counts", x.count(7) + x.count(8) + x.count(9) + x.count(10) + x.count(11), 0);
    }

    private static void bytesOfNumbers() {
        DUE.says("Twenty bytes come behind the TAPE, four of each number, the highest first");
        WhaleLays x = new WhaleLays();
        // a number below 0 has a highest byte above 127, which is no WHALES
        x.feed(-1, LEAST, 0x63030201, 0x00FF0000, MOST);
        DUE.is("row()", x.row(), 1);
        DUE.is("spray()", x.spray(), 4);
        DUE.is("WHALES", x.at(0, 0), 99);
        DUE.is("ODDS of one", x.at(0, 1), 3);
        DUE.is("ODDS of two", x.at(0, 2), 2);
        DUE.is("ODDS of three", x.at(0, 3), 1);
        WhaleLays y = new WhaleLays();
        Due.text(y, "casks 1\u0080");
        DUE.is("a byte above 127 is a TOKEN that can't go on", y.law(), -6);
        DUE.is("fault()", y.fault(), 7);
    }

    private static void end() {
        DUE.says("Promise 9: NONE, if it has not so many, or n is below 0");
        WhaleLays x = new WhaleLays();
        DUE.is("end(0) of an empty TAPE", x.end(0), 0);
        DUE.all("an empty TAPE", -1, () -> x.end(1), () -> x.end(-1), () -> x.end(LEAST), () -> x.end(MOST));
        x.feed(0x01010101, 0x02020202, 0, 0, 0);
        DUE.all("a TAPE of 20", -1, () -> x.end(21), () -> x.end(400), () -> x.end(-1), () -> x.end(LEAST), () -> x.end(MOST));
        DUE.is("as it was", x.count(6), 20);
        DUE.is("end(20)", x.end(20), 20);
        DUE.is("end(4)", x.end(4), 4);
        DUE.is("what is behind is lost", x.end(5), -1);
        x.feed(0x03030303, 0, 0, 0, 0);
        x.end(8);
        DUE.is("row()", x.row(), 2);
        DUE.is("the first bytes alone stayed", x.at(0, 0), 1);
        DUE.is("what came then stands behind them", x.at(1, 0), 3);
        DUE.is("status()", x.status(), 0);
        DUE.says("The TAPE has its first n bytes alone");
        WhaleLays y = new WhaleLays();
        String[] cut = {"casks oilx", "casks 9990", "casks 1 +", "casks 1 if", "casks 1;casks 2"};
        int[] at = {9, 8, 7, 8, 7};
        for (int i = 0; i < cut.length; i++) {
            y.image(0);
            Due.text(y, cut[i]);
            y.end(at[i]);
            DUE.is("law: " + cut[i] + " up to " + at[i], y.law(), 0);
            DUE.is("fault: " + cut[i] + " up to " + at[i], y.fault(), -1);
            y.back(0);
        }
    }

    private static void rowEmpty() {
        DUE.says("Promise 10: -6 the TAPE is empty");
        WhaleLays x = sailed();
        DUE.refused(x, "row() ahead of any feed()", -6, () -> x.row());
        x.feed(1, 1, 1, 1, 1);
        x.end(0);
        DUE.refused(x, "row() behind end(0)", -6, () -> x.row());
        DUE.is("that is not in the way of undo()", x.undo(), 0);
        Due.bytes(x, 1, 1, 1, 1);
        DUE.is("row()", x.row(), 1);
        DUE.refused(x, "the TAPE is empty then", -6, () -> x.row());
    }

    private static void rowCut() {
        DUE.says("one within which the TAPE ends is SPRAY");
        for (int size = 1; size <= 9; size++) {
            WhaleLays x = new WhaleLays();
            x.feed(0x01010101, 0x02010101, 0x03010101, 0, 0);
            x.end(size);
            DUE.is("row() of " + size, x.row(), size / 4);
            DUE.is("spray() of " + size, x.spray(), size % 4 == 0 ? 0 : 1);
            DUE.is("status()", x.status(), 0);
            DUE.is("the TAPE is empty", x.count(6), 0);
        }
    }

    private static void rowThatCannotBe() {
        DUE.says("one that can't be is SPRAY");
        int[][] wrong = {{100, 0, 0, 0}, {255, 0, 0, 0}, {0, 11, 0, 0}, {0, 0, 11, 0}, {0, 0, 0, 11}, {0, 255, 0, 0},
            {0, 0, 255, 0}, {0, 0, 0, 255}, {0, 4, 4, 3}, {0, 10, 1, 0}, {0, 0, 1, 10}, {0, 255, 255, 2}};
        for (int[] w : wrong) {
            WhaleLays x = new WhaleLays();
            Due.bytes(x, 1, 1, 1, 1, w[0], w[1], w[2], w[3], 99, 3, 3, 4);
            String which = w[0] + " " + w[1] + " " + w[2] + " " + w[3];
            DUE.is("row() with " + which, x.row(), 2);
            DUE.is("spray() with " + which, x.spray(), 1);
            DUE.is("the next one comes", x.at(1, 0), 99);
            DUE.is("none more", x.at(2, 0), -1);
        }
        WhaleLays x = new WhaleLays();
        Due.bytes(x, 0, 0, 0, 0, 99, 10, 0, 0, 99, 0, 10, 0, 99, 0, 0, 10);
        DUE.is("row() of those that can just be", x.row(), 4);
        DUE.is("spray()", x.spray(), 0);
        DUE.is("the first", x.at(0, 0), 0);
        DUE.is("the last", x.at(3, 3), 10);
    }

    private static void rowWithoutRoom() {
        DUE.says("one for which there is no room is SPRAY");
        for (int had = 0; had <= 4; had++) {
            WhaleLays x = new WhaleLays();
            for (int i = 0; i < had; i++) {
                x.ground(9, 1, 1, 1);
            }
            Due.bytes(x, 1, 0, 0, 0, 2, 0, 0, 0, 3, 0, 0, 0, 4, 0, 0, 0, 5, 0, 0, 0);
            DUE.is("row() behind " + had, x.row(), 4 - had);
            DUE.is("spray() behind " + had, x.spray(), 1 + had);
            DUE.is("status()", x.status(), 0);
            DUE.is("count(10)", x.count(10), 0);
            DUE.is("the last GROUND", x.at(3, 0), had == 4 ? 9 : 4 - had);
        }
    }

    private static void rowOf400() {
        DUE.says("TEXTS are on a TAPE of at most 400 bytes");
        WhaleLays x = new WhaleLays();
        for (int i = 0; i < 19; i++) {
            x.feed(-1, -1, -1, -1, -1);
        }
        x.feed(-1, -1, -1, -1, 0x07010203);
        DUE.is("row() of 400", x.row(), 1);
        DUE.is("spray()", x.spray(), 99);
        DUE.is("the last four", x.at(0, 0) * 1000 + x.at(0, 1) * 100 + x.at(0, 2) * 10 + x.at(0, 3), 7123);
    }

    private static void spray() {
        DUE.says("Promise 11: the latest row() had that was not REFUSED (0 ahead of any)");
        WhaleLays x = new WhaleLays();
        DUE.is("ahead of any", x.spray(), 0);
        x.row();
        DUE.is("behind a REFUSED one", x.spray(), 0);
        Due.bytes(x, 100, 0, 0, 0, 1);
        DUE.is("no GROUND came", x.row(), 0);
        DUE.is("spray()", x.spray(), 2);
        x.row();
        x.law();
        x.ground(100, 0, 0, 0);
        DUE.is("it stays", x.spray(), 2);
        Due.bytes(x, 1, 0, 0, 0);
        x.row();
        DUE.is("none in the latest", x.spray(), 0);
    }

    // ---- what can be read ----

    private static void fault(String text, int place) {
        WhaleLays x = new WhaleLays();
        DUE.is("law: " + text, Due.law(x, text), place < 0 ? 0 : -6);
        DUE.is("fault: " + text, x.fault(), place);
        DUE.is("laws: " + text, x.count(4), place < 0 ? 1 : 0);
        DUE.is("status: " + text, x.status(), place < 0 ? 0 : -6);
        DUE.is("the TAPE is empty: " + text, x.count(6), 0);
    }

    private static void orders(String text, int place) {
        WhaleLays x = sailed();
        boolean read = Due.orders(x, text) != -6;
        DUE.that("orders: " + text, read == place < 0);
        DUE.is("fault: " + text, x.fault(), place);
        DUE.is("the TAPE is empty: " + text, x.count(6), 0);
    }

    private static void blanks() {
        DUE.says("any blanks (32) between");
        fault("   casks   1   ;   deserts   if   1   <   2   ", -1);
        fault("casks 1;deserts if 1<2", -1);
        fault("eats5if[1]<2and(3=3)", -1);
        fault("casks\t1", 5);
        fault("casks\n1", 5);
        fault("casks\u00001", 5);
        fault("casks\u001f1", 5);
        fault("casks 1\u0000", 7);
        fault("\u0000", 0);
        fault("casks 1\u00a0", 7);
        fault("casks 1!", 7);
    }

    private static void tokens() {
        DUE.says("longest rows of letters a .. z, of digits, single other bytes");
        fault("deserts;eatsoil", 8);
        fault("deserts;eatsmood1", 8);
        fault("casks oilx", 6);
        fault("casks xoil", 6);
        fault("casks oi", 6);
        fault("casks o il", 6);
        fault("casks Oil", 6);
        fault("casks oiL", 6);
        fault("casks oilL", 9);
        fault("casks a", 6);
        fault("casks z", 6);
        fault("casks oila", 6);
        fault("casks oilz", 6);
        fault("casks oil`", 9);
        fault("casks oil{", 9);
        fault("casks oilA", 9);
        fault("casks oil0", 9);
        fault("casks 10/", 9);
        fault("casks 10:", 8);
        fault("casks 10oil", 8);
        fault("deserts if1=1", -1);
        fault("desertsif 1=1", 0);
        fault("casks 1 0", 8);
        fault("casks 100 0", 10);
        fault("casks 9/3", -1);
        fault("casks 0", -1);
        fault("casks 9", -1);
        fault("casks 1:", 7);
        fault("casks 1`", 7);
        fault("casks 1{", 7);
        fault("casks 1@", 7);
        fault("deserts if 1 == 1", 14);
        fault("deserts if 1 >= 1", 14);
        fault("deserts if 1 <> 1", 14);
    }

    /** Every single byte behind a whole CLAUSE: most are a FAULT there, the others lack what is next. */
    private static void signs() {
        DUE.says("FAULT: the first TOKEN that can't go on there");
        for (int sign = 0; sign < 256; sign++) {
            String goesOn = "+-*/%;";
            String text = "casks oil" + " " + (char) sign;
            int place = sign == ' ' ? -1 : goesOn.indexOf(sign) >= 0 ? 11 : 10;
            WhaleLays x = new WhaleLays();
            DUE.is("law with byte " + sign, Due.law(x, text), place < 0 ? 0 : -6);
            DUE.is("fault with byte " + sign, x.fault(), place);
        }
    }

    private static void faultAtTheEnd() {
        DUE.says("FAULT (the end's: the TEXT's length)");
        fault("", 0);
        fault(" ", 1);
        fault("     ", 5);
        fault("casks", 5);
        fault("casks   ", 8);
        fault("casks 1 +", 9);
        fault("casks 1 +  ", 11);
        fault("casks [1", 8);
        fault("casks [1 ", 9);
        fault("casks 1 if", 10);
        fault("deserts if 1", 12);
        fault("deserts if 1 ", 13);
        fault("deserts if (1 = 1", 17);
        fault("deserts if not ", 15);
        fault("deserts if 1 = 1 and ", 21);
        fault("deserts ; ", 10);
        orders("", 0);
        orders("   ", 3);
        orders("hunt 0 for ", 11);
        orders("sell 1 times ", 13);
        orders("sell debt ", 10);
        orders("sell whales", 11);
        orders("sell 1; ", 8);
        orders("sell 1 if 1", 11);
        orders("sell 1 if 1 <", 13);
    }

    private static void textOf400() {
        DUE.says("TEXTS are on a TAPE of at most 400 bytes");
        fault(" ".repeat(400), 400);
        fault(" ".repeat(393) + "casks 7", -1);
        fault(" ".repeat(395) + "casks", 400);
        fault(" ".repeat(399) + "?", 399);
        fault("casks 1" + " ".repeat(392) + "?", 399);
        fault("a".repeat(400), 0);
        fault("casks " + "0".repeat(394), -1);
        fault("casks " + "0".repeat(390) + "1000", -1);
        fault("casks " + "0".repeat(390) + "1001", 6);
        fault("casks " + "9".repeat(394), 6);
        fault("deserts if " + "not ".repeat(96) + "1=11 ", -1);
        fault("[".repeat(400), 0);
        fault("casks " + "[".repeat(394), 14);
        fault(";".repeat(400), 0);
        orders(" ".repeat(394) + "sell 1", -1);
        orders(" ".repeat(396) + "sell", 400);
        // as many TOKENS as there can be: none but the first is longer than a byte
        String most = "sell[[[[[[[[1]]]]]]]]" + "+[[[[[[[[1]]]]]]]]".repeat(21);
        orders(most, -1);
        orders(most + " ", -1);
        orders(most + "]", 399);
        orders(most + ";", 400);
    }

    private static void clauses12() {
        DUE.says("CLAUSE {\";\" CLAUSE}, 12 at most (FAULT at the 13th's first TOKEN)");
        String twelve = "deserts" + ";deserts".repeat(11);
        fault(twelve, -1);
        fault(twelve + ";deserts", 96);
        fault(twelve + ";  deserts", 98);
        fault(twelve + ";", 96);
        fault(twelve + ";  ", 98);
        fault(twelve + ";;", 96);
        fault(twelve + ";?", 96);
        fault(twelve + " deserts", 96);
        // of an earlier FAULT the earlier is told
        fault("deserts?" + ";deserts".repeat(12), 7);
        String orders = "sell 1" + ";sell 1".repeat(11);
        orders(orders, -1);
        orders(orders + ";sell 1", 84);
        orders(orders + ";", 84);
    }

    private static void parts50() {
        DUE.says("50 PARTS that are NUMBERS and words (FAULT at the 51st)");
        String fifty = "casks oil" + "+1".repeat(49);
        fault(fifty, -1);
        fault(fifty + "+1", fifty.length() + 1);
        fault(fifty + "+oil", fifty.length() + 1);
        fault(fifty + "+ 1", fifty.length() + 2);
        fault(fifty + "+[[1]]", fifty.length() + 3);
        fault(fifty + " if (1=1)", fifty.length() + 5);
        fault(fifty + " if ?", fifty.length() + 4);
        fault(fifty + "+", fifty.length() + 1);
        fault(fifty + ";deserts", -1);
        fault(fifty + ";deserts if 1=1", fifty.length() + 12);
        DUE.says("50 PARTS that are NUMBERS and words: brackets are none");
        fault("casks [oil]" + "+[1]".repeat(49), -1);
        fault("casks [oil]" + "+[1]".repeat(50), 11 + 4 * 49 + 2);
        fault("deserts if oil=1" + " or 1=1".repeat(24), -1);
        fault("deserts if oil=1" + " or 1=1".repeat(24) + " or 1=1", 16 + 7 * 24 + 4);
        DUE.says("50 PARTS: of each TEXT anew");
        WhaleLays x = sailed();
        for (int i = 0; i < 5; i++) {
            DUE.is("law " + i, Due.law(x, fifty), i);
            DUE.is("a FAULT between", Due.orders(x, "sell 1" + "+1".repeat(49) + "+?"), -6);
            DUE.is("fault()", x.fault(), 105);
            DUE.is("orders " + i, Due.orders(x, "sell 1" + "-0".repeat(48) + "*1"), 1);
        }
        DUE.is("OIL", x.count(13), 55);
        x.force(4);
        DUE.is("55 + 49, the nearest", x.at(0, 4), 99);
        x.force(0);
        x.sell(20);
        DUE.is("35 + 49", x.at(0, 4), 84);
    }

    private static void brackets8() {
        DUE.says("8 brackets of both kinds within one another (FAULT at the 9th) at most");
        fault("casks [[[[[[[[1]]]]]]]]", -1);
        fault("casks [[[[[[[[[1]]]]]]]]]", 14);
        fault("casks [[[[[[[[1]]]]]]]]+[[[[[[[[1]]]]]]]]", -1);
        fault("casks [[[[[[[[1]]]]]]]]+[[[[[[[[[1]]]]]]]]]", 32);
        fault("casks [[[[[[[[1]+[1]]]]]]]]", -1);
        fault("casks [[[[[[[[1]+[[1]]]]]]]]]", 18);
        fault("deserts if ((((((((1=1))))))))", -1);
        fault("deserts if (((((((((1=1)))))))))", 19);
        fault("deserts if ((((((((1=1)))))))) and ((((((((1=1))))))))", -1);
        fault("deserts if (((((((([1]=1))))))))", 19);
        fault("deserts if ((((((([1]=[1])))))))", -1);
        fault("deserts if ((((((([1]=[[1]])))))))", 23);
        fault("deserts if (not(not(not(not(not(not(not(1=1))))))))", -1);
        fault("deserts if (not(not(not(not(not(not(not(not(1=1)))))))))", 43);
        fault("casks [[[[1]]]] if ((((((((1=1))))))))", -1);
        orders("sell [[[[[[[[1]]]]]]]] if ((((((((1=1))))))))", -1);
        orders("sell [[[[[[[[[1]]]]]]]]]", 13);
        DUE.says("8 brackets: of each TEXT anew");
        WhaleLays x = new WhaleLays();
        DUE.is("a FAULT within eight", Due.law(x, "casks [[[[[[[[?"), -6);
        DUE.is("a FAULT at the ninth", Due.law(x, "casks [[[[[[[[["), -6);
        DUE.is("eight", Due.law(x, "casks [[[[[[[[1]]]]]]]]"), 0);
        DUE.is("nine", Due.law(x, "casks [[[[[[[[[1]]]]]]]]]"), -6);
        DUE.is("fault()", x.fault(), 14);
    }

    private static void numbers() {
        DUE.says("NUMBER (to 1,000)");
        fault("casks 0", -1);
        fault("casks 1000", -1);
        fault("casks 1001", 6);
        fault("casks 0001000", -1);
        fault("casks 0001001", 6);
        fault("casks 10000", 6);
        fault("casks 2147483648", 6);
        fault("casks 4294967297", 6);
        fault("casks 18446744073709551617", 6);
        fault("deserts if 1 < 1001", 15);
        orders("sell 1000", -1);
        orders("sell 1001", 5);
    }

    // ---- what is broken ----

    /** What one whale gives by a SUM: 20, if it is BROKEN. */
    private static void casks(String sum, int due) {
        WhaleLays x = new WhaleLays();
        x.ground(0, 0, 0, 0);
        DUE.is("it is read: " + sum, Due.rule(x, "casks " + sum), 0);
        DUE.is("casks " + sum, x.at(0, 4), due);
    }

    /** 1 so, 0 not so, -1 BROKEN: a TEST and its contrary are both not so then. */
    private static void test(String test, int due) {
        WhaleLays x = new WhaleLays();
        x.sign(1, 0);
        Due.rule(x, "deserts if " + test);
        DUE.is("if " + test, x.of(0, 5), due == 1 ? 1 : 0);
        Due.rule(x, "deserts if not (" + test + ")");
        DUE.is("if not (" + test + ")", x.of(0, 5), due == 0 ? 1 : 0);
    }

    private static void comparisons() {
        DUE.says("PLAIN: \"not\" PLAIN | \"(\" TEST \")\" | SUM (\"<\" | \">\" | \"=\") SUM");
        String[] signs = {"<", ">", "="};
        int[][] due = {{1, 0, 0}, {0, 0, 1}, {0, 1, 0}};
        for (int i = 0; i < signs.length; i++) {
            test("6 " + signs[i] + " 7", due[i][0]);
            test("7 " + signs[i] + " 7", due[i][1]);
            test("8 " + signs[i] + " 7", due[i][2]);
            test("0-1 " + signs[i] + " 0", due[i][0]);
            test("0 " + signs[i] + " 0-1", due[i][2]);
            test("not 7 " + signs[i] + " 7", 1 - due[i][1]);
            test("not not 7 " + signs[i] + " 7", due[i][1]);
        }
        test("0 = 0-0", 1);
        test("1000*1000*1000 = 1000*1000*1000", 1);
        test("0-1000*1000*1000 < 1000*1000*1000", 1);
    }

    private static void billions() {
        DUE.says("Beyond 1,000,000,000 either way a SUM, a TEST is BROKEN");
        String billion = "1000*1000*1000";
        casks("[" + billion + "]/1000/1000/100", 10);
        casks("[" + billion + "+1]/1000/1000/100", 20);
        casks("[" + billion + "-1]/1000/1000/100", 9);
        casks("[0-" + billion + "]/1000/1000/100+50", 40);
        casks("[0-" + billion + "-1]/1000/1000/100+50", 20);
        casks("[0-" + billion + "+1]/1000/1000/100+50", 41);
        casks(billion + "+1-1", 20);
        casks("[" + billion + "]*2-" + billion, 20);
        casks("[" + billion + "]*[" + billion + "]", 20);
        casks("[0-" + billion + "]*[" + billion + "]", 20);
        casks("[0-" + billion + "]*[0-" + billion + "]", 20);
        casks("1000*1000*1000*1000*1000*1000*1000*0", 20);
        casks("0*1000*1000*1000*1000", 1);
        // products that an int would wrap round to a small number
        casks("256*256*256*256", 20);
        casks("256*256*256*256+33", 20);
        casks("[0-" + billion + "]/[0-1]/1000/1000/100", 10);
        test("[" + billion + "]=[" + billion + "]", 1);
        test(billion + " + 1 > 0", -1);
        test("0 < " + billion + " + 1", -1);
        test("0 - " + billion + " - 1 < 0", -1);
        test("0 - " + billion + " < 0", 1);
    }

    private static void dividedBy0() {
        DUE.says("or divided by 0, a SUM, a TEST is BROKEN");
        casks("1/0", 20);
        casks("1%0", 20);
        casks("0/0", 20);
        casks("0%0", 20);
        casks("7/[3-3]", 20);
        casks("7%[3-3]", 20);
        casks("7/oil", 20);
        casks("0*[7/0]", 20);
        casks("7+0/5", 7);
        casks("7+0%5", 7);
        test("1/0 = 1", -1);
        test("1 = 1%0", -1);
        test("1/0 = 1/0", -1);
    }

    private static void cutTowards0() {
        DUE.says("/ cut towards 0, % what is left then");
        casks("50+7/2", 53);
        casks("50+[0-7]/2", 47);
        casks("50+7/[0-2]", 47);
        casks("50+[0-7]/[0-2]", 53);
        casks("50+7%2", 51);
        casks("50+[0-7]%2", 49);
        casks("50+7%[0-2]", 51);
        casks("50+[0-7]%[0-2]", 49);
        casks("50+1/2", 50);
        casks("50+[0-1]/2", 50);
        casks("50+6%3", 50);
        casks("50+[0-6]%3", 50);
    }

    private static void canStillMatter() {
        DUE.says("\"or\", \"and\" ask what stands behind only if it can still matter");
        test("1=1 or 1/0=1", 1);
        test("1=2 or 1/0=1", -1);
        test("1=2 and 1/0=1", 0);
        test("1=1 and 1/0=1", -1);
        test("1/0=1 or 1=1", -1);
        test("1/0=1 and 1=2", -1);
        test("1=2 or 1=1 or 1/0=1", 1);
        test("1=1 and 1=2 and 1/0=1", 0);
        test("1=1 or 1/0=1 and 1/0=1", 1);
        test("1=2 and 1/0=1 or 1=1", 1);
        test("1=2 and 1/0=1 or 1=2", 0);
        test("1=1 and 1=1 or 1/0=1", 1);
        test("(1=1 or 1/0=1) and (1=2 and 1/0=1)", 0);
        test("not 1=1 and 1/0=1", 0);
        test("not 1=2 or 1/0=1", 1);
    }

    // ---- laws ----

    private static void casksNearest() {
        DUE.says("CASKS as the last \"casks\" that HOLDS tells, 1 .. 99 (else the nearest), 20 without");
        casks("0-1000*1000*1000", 1);
        casks("0-1", 1);
        casks("0", 1);
        casks("1", 1);
        casks("2", 2);
        casks("98", 98);
        casks("99", 99);
        casks("100", 99);
        casks("1000*1000*1000", 99);
        WhaleLays x = new WhaleLays();
        x.ground(1, 0, 0, 0);
        DUE.is("no LAW in FORCE", x.at(0, 4), 20);
        Due.rule(x, "eats 3; deserts");
        DUE.is("no such CLAUSE", x.at(0, 4), 20);
        Due.rule(x, "casks 3 if 1=2");
        DUE.is("none that HOLDS", x.at(0, 4), 20);
    }

    private static void eats(String sum, int due) {
        WhaleLays x = new WhaleLays();
        x.sign(1, 0);
        Due.rule(x, "eats " + sum);
        DUE.is("eats " + sum, x.of(0, 4), due);
    }

    private static void eatsNearest() {
        DUE.says("a HAND EATS for 0 .. 99 pence a MONTH, 5 without");
        eats("0-1000*1000*1000", 0);
        eats("0-1", 0);
        eats("0", 0);
        eats("1", 1);
        eats("99", 99);
        eats("100", 99);
        eats("1000*1000*1000", 99);
        eats("1/0", 5);
        eats("1 if 1=2", 5);
        WhaleLays x = new WhaleLays();
        x.sign(1, 0);
        DUE.is("no LAW in FORCE", x.of(0, 4), 5);
        Due.rule(x, "casks 3; deserts");
        DUE.is("no such CLAUSE", x.of(0, 4), 5);
    }

    private static void holds() {
        DUE.says("A CLAUSE HOLDS, if its \"if\" (if it has one) is so, and neither that nor its SUM is BROKEN");
        casks("7; casks 8", 8);
        casks("7; casks 8 if 1=2", 7);
        casks("7; casks 8 if 1/0=1", 7);
        casks("7; casks 1/0", 7);
        casks("7; casks 1/0 if 1=1", 7);
        casks("7 if 1/0=1; casks 1/0", 20);
        eats("7; eats 8 if 1/0=1", 7);
        eats("7; eats 1/0", 7);
        WhaleLays x = new WhaleLays();
        x.sign(1, 0);
        DUE.is("no LAW: DESERTS", x.of(0, 5), 0);
        Due.rule(x, "deserts");
        DUE.is("without an \"if\"", x.of(0, 5), 1);
        Due.rule(x, "deserts; deserts if 1=2");
        DUE.is("one that HOLDS ahead of one that does not", x.of(0, 5), 1);
        Due.rule(x, "deserts if 1/0=1");
        DUE.is("a BROKEN \"if\"", x.of(0, 5), 0);
        Due.rule(x, "deserts if 1/0=1; deserts if 1=1; deserts if 1/0=1");
        DUE.is("one that HOLDS between BROKEN ones", x.of(0, 5), 1);
    }

    /** What "casks", "eats", "deserts" are asked of, one behind the other: nothing of one is left for the next. */
    private static void wordsOfLaws() {
        DUE.says("\"casks\" is asked of a GROUND (hand, lay, debt, served -1), \"eats\", \"deserts\" of a HAND (ground, whales -1)");
        WhaleLays x = new WhaleLays();
        x.terms(0, 9);
        x.sign(999, 30);
        x.sign(1, 40);
        x.ground(0, 0, 0, 0);
        x.ground(99, 0, 0, 0);
        x.terms(0, 4);
        x.terms(2, 9);
        x.hunt(1, 1);
        x.leave(0);
        String[] words = {"hand", "lay", "debt", "served", "ground", "whales", "oil", "crew", "month", "mood"};
        int[] ofHand = {1, 1, 45, -4, -1, -1, 20, 1, 5, 9};
        int[] ofGround = {-1, -1, -1, -1, 1, 98, 20, 1, 5, 9};
        for (int i = 0; i < words.length; i++) {
            x.image(0);
            Due.rule(x, "casks 40 + " + words[i] + "; eats 40 + " + words[i] + "; deserts if 40 + " + words[i] + " = " + (40 + ofHand[i]));
            for (int round = 0; round < 2; round++) {
                DUE.is("eats by " + words[i], x.of(1, 4), 40 + ofHand[i]);
                DUE.is("casks by " + words[i], x.at(1, 4), Math.min(99, 40 + ofGround[i]));
                DUE.is("deserts by " + words[i], x.of(1, 5), 1);
            }
            x.back(0);
        }
        DUE.says("served: MONTH less JOINED");
        Due.rule(x, "eats 50 + served");
        int[] months = {0, 8, 9, 10, 71};
        for (int month : months) {
            x.terms(0, month);
            DUE.is("at MONTH " + month, x.of(1, 4), Math.min(99, 50 + month - 9));
        }
        DUE.says("oil: OIL, crew: how many are ABOARD, as they are when it is asked");
        WhaleLays y = sailed();
        Due.rule(y, "eats oil - 57 + month * 10 + crew * 20 + mood");
        DUE.is("at first", y.of(0, 4), 53);
        y.sell(1);
        DUE.is("OIL one less", y.of(0, 4), 52);
        y.leave(1);
        DUE.is("one ABOARD less", y.of(0, 4), 32);
        y.terms(0, 2);
        DUE.is("the next MONTH", y.of(0, 4), 42);
        y.terms(2, 9);
        DUE.is("MOOD 9", y.of(0, 4), 51);
        y.leave(0);
        DUE.is("nobody ABOARD", y.of(0, 4), 31);
        Due.rule(y, "casks 10 + crew + oil; deserts if crew = 0 and oil = 59");
        DUE.is("casks, nobody ABOARD", y.at(0, 4), 69);
        DUE.is("deserts, nobody ABOARD", y.of(1, 5), 1);
        DUE.says("mood: MOOD 0 .. 9");
        Due.rule(x, "deserts if mood = 9; casks 50 if mood = 0");
        DUE.is("MOOD 9", x.of(1, 5), 1);
        DUE.is("MOOD 9", x.at(0, 4), 20);
        x.terms(2, 0);
        DUE.is("MOOD 0", x.of(1, 5), 0);
        DUE.is("MOOD 0", x.at(0, 4), 50);
    }

    private static void laws6() {
        DUE.says("LAWS, 6 at most; Promise 12: -5 (ahead of reading it; the TAPE is empty then, too)");
        WhaleLays x = sailed();
        for (int law = 0; law < 6; law++) {
            DUE.is("law " + law, Due.law(x, "casks " + (law + 30)), law);
        }
        Due.law(x, "casks 9");
        DUE.is("a seventh", x.status(), -5);
        DUE.is("the TAPE is empty", x.count(6), 0);
        DUE.is("a seventh that can't be read", Due.law(x, "?"), -5);
        DUE.is("it was not read", x.fault(), -1);
        DUE.refused(x, "a seventh from an empty TAPE", -5, () -> x.law());
        DUE.is("it was not read either", x.fault(), -1);
        DUE.is("count(4)", x.count(4), 6);
        DUE.is("count(10)", x.count(10), 3);
        DUE.is("count(11)", x.count(11), 0);
        x.force(5);
        DUE.is("the sixth", x.at(0, 4), 35);
        DUE.is("laws are not in the way of undo()", x.undo(), 0);
    }

    private static void lawRefused() {
        DUE.says("Promise 12: -6 (blanks alone: FAULT at the end)");
        WhaleLays x = sailed();
        DUE.refused(x, "law() of an empty TAPE", -6, () -> x.law());
        DUE.is("fault()", x.fault(), 0);
        for (int blanks : new int[] {1, 19, 20, 21, 400}) {
            DUE.is("law() of " + blanks + " blanks", Due.law(x, " ".repeat(blanks)), -6);
            DUE.is("fault()", x.fault(), blanks);
            DUE.is("the TAPE is empty", x.count(6), 0);
        }
        DUE.is("no LAW came", x.count(4), 0);
        DUE.is("a LAW", Due.law(x, "casks 1"), 0);
        DUE.is("it is not in FORCE by itself", x.count(12), -1);
    }

    private static void force() {
        DUE.says("Promise 16: A LAW is in FORCE (NONE: none): which was. -2");
        WhaleLays x = new WhaleLays();
        x.ground(1, 0, 0, 0);
        DUE.is("force(NONE) without LAWS: none was", x.force(-1), -1);
        DUE.is("that is not REFUSED", x.status() + x.count(7) + x.count(8), 0);
        DUE.refused(x, "force(0) without LAWS", -2, () -> x.force(0));
        Due.law(x, "casks 31");
        Due.law(x, "casks 32");
        DUE.refused(x, "force(2) of two", -2, () -> x.force(2));
        DUE.refused(x, "force(-2)", -2, () -> x.force(-2));
        DUE.refused(x, "force(6)", -2, () -> x.force(6));
        DUE.refused(x, "force(least)", -2, () -> x.force(LEAST));
        DUE.refused(x, "force(most)", -2, () -> x.force(MOST));
        DUE.is("none was", x.force(1), -1);
        DUE.is("status()", x.status(), 0);
        DUE.refused(x, "force(2)", -2, () -> x.force(2));
        DUE.is("1 was and is", x.force(1), 1);
        DUE.is("1 was", x.force(0), 1);
        DUE.is("0 was", x.force(-1), 0);
        DUE.is("none is", x.count(12), -1);
        DUE.is("casks", x.at(0, 4), 20);
    }

    private static void faultOfTheLatest() {
        DUE.says("Promise 14: FAULT of the latest law(), orders() that read a TEXT: its place; NONE without");
        WhaleLays x = sailed();
        DUE.is("ahead of any", x.fault(), -1);
        Due.law(x, "casks ?");
        DUE.is("of a law()", x.fault(), 6);
        Due.bytes(x, 1, 1, 1, 1);
        x.row();
        x.row();
        x.force(9);
        DUE.is("it stays", x.fault(), 6);
        Due.orders(x, "sell 1 ?");
        DUE.is("of orders()", x.fault(), 7);
        Due.orders(x, "sell 1000");
        DUE.is("read, but not run: none", x.fault(), -1);
        Due.orders(x, "?");
        DUE.is("at the first TOKEN", x.fault(), 0);
        Due.orders(x, "sell 1");
        DUE.is("none", x.fault(), -1);
        for (int i = 0; i < 6; i++) {
            Due.law(x, "casks 1");
        }
        Due.orders(x, "leave");
        Due.law(x, "casks 1");
        DUE.is("a law() without room reads none", x.fault(), 5);
    }

    // ---- orders ----

    private static void times() {
        DUE.says("TIMES: a NUMBER 1 .. 20");
        orders("sell 1 times 0", 13);
        orders("sell 1 times 00", 13);
        orders("sell 1 times 1", -1);
        orders("sell 1 times 20", -1);
        orders("sell 1 times 020", -1);
        orders("sell 1 times 21", 13);
        orders("sell 1 times 1000", 13);
        orders("sell 1 times 4294967297", 13);
        orders("sell 1 times [1]", 13);
        orders("sell 1 times 1+1", 14);
        orders("sell 1 times month", 13);
        orders("sell 1 if 1=1 times 2", 14);
        WhaleLays x = sailed();
        DUE.is("times 1", Due.orders(x, "sell 1 times 1"), 1);
        DUE.is("times 20", Due.orders(x, "sell 1 times 20"), 20);
        DUE.is("once without", Due.orders(x, "sell 1"), 1);
        DUE.is("OIL", x.count(13), 60 - 22);
    }

    private static void handsAndGrounds() {
        DUE.says("H: a NUMBER 0 .. 7, G: 0 .. 3");
        orders("sell debt 0", -1);
        orders("sell debt 7", -1);
        orders("sell debt7", -1);
        orders("sell debt 007", -1);
        orders("sell debt 8", 10);
        orders("sell debt 10", 10);
        orders("sell debt", 9);
        orders("sell debt + 1", 10);
        orders("sell debt - 1", 10);
        orders("sell whales 0", -1);
        orders("sell whales 3", -1);
        orders("sell whales 4", 12);
        orders("sell whales 7", 12);
        orders("sell whales oil", 12);
        orders("sell 1 if debt < 5", 15);
        // in a LAW they have none
        fault("casks debt", -1);
        fault("casks debt 0", 11);
        fault("casks whales 0", 13);
    }

    private static void partsOfOrders() {
        DUE.says("H, G, TIMES aside, NUMBERS and words count as PARTS");
        String fortyNine = "sell 1" + "+1".repeat(48);
        orders(fortyNine + "+debt 0", -1);
        orders(fortyNine + "+whales 0 times 2", -1);
        orders(fortyNine + "+debt 0+1", fortyNine.length() + 8);
        orders(fortyNine + "+whales 0 times 2 if 1=1", fortyNine.length() + 21);
        orders("sell debt 0" + "+debt 0".repeat(49), -1);
        orders("sell debt 0" + "+debt 0".repeat(50), 11 + 7 * 49 + 1);
        String fifty = "hunt 0 for 1" + "+1".repeat(48);
        orders(fifty, -1);
        orders(fifty + "+1", fifty.length() + 1);
        orders(fifty + ";leave 0", fifty.length() + 7);
    }

    private static void doneAndGone() {
        DUE.says("done: how many were run in this TEXT, gone: what the latest hunt in it told (-1: none)");
        WhaleLays x = sailed();
        DUE.is("done is 0 at first", Due.orders(x, "sell 1 if done = 0"), 1);
        DUE.is("those that are not run are not counted", Due.orders(x, "sell 1 if done = 1; sell 1 if done = 0; sell 1 if done = 1"), 2);
        DUE.is("gone is -1 at first", Due.orders(x, "sell 1 if gone = 0-1; sell 1 if gone = 0-1"), 2);
        DUE.is("a hunt that nobody left by", Due.orders(x, "hunt 0 for 0; sell 1 if gone = 0"), 2);
        Due.rule(x, "deserts");
        DUE.is("one that all left by", Due.orders(x, "hunt 0 for 0; sell 1 if gone = 2; sell 1 if gone = 2"), 3);
        x.undo();
        x.undo();
        x.undo();
        Due.rule(x, "deserts if hand = 0");
        DUE.is("leave and sell do not count", Due.orders(x, "hunt 0 for 0; leave 1; sell 1 if gone = 1; sell 1 if gone = 2"), 3);
        DUE.is("done up to 240", Due.orders(sailed(), "advance 0 by 1 times 20 if purse > 0"
            + ";sell 1 times 20 if done < 40".repeat(11)), 40);
    }

    private static void notThere() {
        DUE.says("debt, whales: -1 without such a HAND, GROUND");
        WhaleLays x = sailed();
        DUE.is("debt 2 .. 7", Due.orders(x, "sell 1 if debt 2 = 0-1 and debt 3 = 0-1 and debt 7 = 0-1"), 1);
        DUE.is("whales 2, 3", Due.orders(x, "sell 1 if whales 2 = 0-1 and whales 3 = 0-1"), 1);
        DUE.is("debt 1 is there", Due.orders(x, "sell 1 if debt 1 = 5 and debt 0 = 12"), 1);
        DUE.is("whales 1 is there", Due.orders(x, "sell 1 if whales 1 = 3 and whales 0 = 96"), 1);
        x.leave(1);
        DUE.is("one that is GONE is still there", Due.orders(x, "sell 1 if debt 1 = 5"), 1);
    }

    private static void ifIsAsked() {
        DUE.says("each time its \"if\" is asked (not run, if it is not so or BROKEN), then its SUMS");
        WhaleLays x = sailed();
        DUE.is("not so", Due.orders(x, "sell 1 times 20 if oil < 0"), 0);
        DUE.is("status()", x.status(), 0);
        DUE.is("BROKEN", Due.orders(x, "sell 1 times 20 if oil / 0 = 0"), 0);
        DUE.is("beyond a billion", Due.orders(x, "sell 1 times 20 if 1000*1000*1000*1000 > 0"), 0);
        DUE.is("what can't be is not run then", Due.orders(x, "leave 7 if 1=2; sell 1/0 if 1=2; hunt 3 for 9 if 1/0=1"), 0);
        DUE.is("it is asked each time", Due.orders(x, "sell 1 times 20 if oil > 55"), 5);
        DUE.is("SUMS, too", Due.orders(x, "sell oil / 2 times 3"), 3);
        DUE.is("55, 28, 14 are left", x.count(13), 7);
        DUE.is("nothing was REFUSED", x.count(7) + x.count(8) + x.count(9), 0);
    }

    private static void ordersEmpty() {
        DUE.says("Promise 13: -6 (as for law())");
        WhaleLays x = sailed();
        DUE.refused(x, "orders() of an empty TAPE", -6, () -> x.orders());
        DUE.is("fault()", x.fault(), 0);
        DUE.is("blanks alone", Due.orders(x, "    "), -6);
        DUE.is("fault()", x.fault(), 4);
        DUE.is("the TAPE is empty", x.count(6), 0);
        DUE.is("a FAULT behind what could be run", Due.orders(x, "sell 1; sell 1; leave 0; sell ?"), -6);
        DUE.is("nothing was run", x.count(13) * 10 + x.count(1), 602);
        DUE.is("nothing more can be undone", x.count(5), 1);
        DUE.is("by a LAW's CLAUSE", Due.orders(x, "casks 1"), -6);
        DUE.is("a LAW by an order's", Due.law(x, "sell 1"), -6);
    }

    private static void ordersToTheEnd() {
        DUE.says("One that can't be ends it: as hunt() is REFUSED at MONTH 71");
        WhaleLays x = new WhaleLays();
        x.sign(1, 0);
        x.ground(99, 0, 0, 0);
        x.terms(0, 60);
        DUE.is("twelve are too many", Due.orders(x, "hunt 0 for 1 times 12"), -3);
        DUE.is("MONTH as it was", x.count(15), 60);
        DUE.is("OIL as it was", x.count(13), 0);
        DUE.is("eleven can be", Due.orders(x, "hunt 0 for 1 times 11"), 11);
        DUE.is("MONTH 71", x.count(15), 71);
        DUE.is("no more", Due.orders(x, "hunt 0 for 0"), -3);
        DUE.is("none asked for", Due.orders(x, "hunt 0 for 0 times 20 if month < 71"), 0);
        WhaleLays y = new WhaleLays();
        y.sign(1, 0);
        y.ground(99, 0, 0, 0);
        DUE.is("71 from MONTH 0 on, of 240", Due.orders(y, "hunt 0 for 0 times 20 if month<71" + ";hunt 0 for 0 times 20 if month<71".repeat(4)), 71);
    }

    private static void stop(String text, int clause) {
        WhaleLays x = sailed();
        x.sell(10);
        String before = Seen.of(x);
        int times = x.count(9);
        DUE.is("stops: " + text, Due.orders(x, text), -3);
        DUE.is("stopped: " + text, x.stopped(), clause);
        DUE.is("status: " + text, x.status(), -3);
        DUE.is("REFUSED once: " + text, x.count(9), times + 1);
        DUE.is("by no other: " + text, x.count(7) + x.count(8) + x.count(10) + x.count(11), 0);
        DUE.same("as it was: " + text, Seen.of(x), before);
        DUE.is("undone is what was ahead", x.undo(), 1);
        DUE.is("and what was ahead of that", x.undo(), 0);
    }

    private static void ordersWholly() {
        DUE.says("One that can't be (a BROKEN SUM, as hunt(), sell(), advance(), leave() are REFUSED) ends it: all is as it was ahead of it");
        stop("hunt 0 for 4", 0);
        stop("hunt 0 for 0-1", 0);
        stop("hunt 0-1 for 0", 0);
        stop("hunt 2 for 0", 0);
        stop("hunt 1 for 3; hunt 1 for 1", 1);
        stop("hunt 1/0 for 0", 0);
        stop("hunt 0 for 1/0", 0);
        stop("hunt 0 for 1000*1000*1000*1000", 0);
        stop("sell 0", 0);
        stop("sell 0-1", 0);
        stop("sell 1000", 0);
        stop("sell 50; sell 1", 1);
        stop("sell 51", 0);
        stop("sell 1%0", 0);
        stop("advance 0 by 0", 0);
        stop("advance 0 by 1000*10", 0);
        stop("advance 0 by 100; advance 1 by 1", 1);
        stop("advance 0 by 101", 0);
        stop("advance 2 by 1", 0);
        stop("advance 0-1 by 1", 0);
        stop("advance 1/0 by 1", 0);
        stop("advance 0 by 1/0", 0);
        stop("leave 0; advance 0 by 1", 1);
        stop("leave 2", 0);
        stop("leave 0-1", 0);
        stop("leave 0 times 2", 0);
        stop("leave 0; leave 1; hunt 0 for 0", 2);
        stop("leave 0; leave 1; leave 1", 2);
        stop("sell 1" + ";sell 1".repeat(10) + ";leave 9", 11);
        stop("sell 1 times 20; hunt 0 for 3 times 20; leave 1; sell oil; advance 0 by purse; leave 9 times 20", 5);
    }

    /** A TEXT behind another one: nothing of the first is left. */
    private static void ordersAnew() {
        DUE.says("ORDERS: each TEXT by itself");
        WhaleLays x = sailed();
        DUE.is("a BROKEN SUM that is not asked", Due.orders(x, "hunt 0 for 1/0 times 20 if 1=2"), 0);
        DUE.is("sell", Due.orders(x, "sell 1"), 1);
        DUE.is("one that can't be", Due.orders(x, "advance 0 by 1/0"), -3);
        DUE.is("sell", Due.orders(x, "sell 1"), 1);
        DUE.is("leave", Due.orders(x, "leave 0"), 1);
        DUE.is("a FAULT behind a CLAUSE with all", Due.orders(x, "hunt 1 for 3 times 20 if 1=1; ?"), -6);
        DUE.is("sell, once", Due.orders(x, "sell 1"), 1);
        DUE.is("OIL", x.count(13), 57);
    }

    private static void undoneInOrders() {
        DUE.says("Promise 21: by ORDERS, too; 16 are kept");
        WhaleLays x = sailed();
        DUE.is("seventeen", Due.orders(x, "leave 1; sell 1 times 16"), 17);
        DUE.is("16 are kept", x.count(5), 16);
        for (int i = 0; i < 16; i++) {
            DUE.is("undo()", x.undo(), 1);
        }
        DUE.is("the first of them is not kept", x.undo(), -3);
        DUE.is("who left is still GONE", x.of(1, 3), 0);
        WhaleLays y = sailed();
        for (int i = 0; i < 15; i++) {
            y.sell(1);
        }
        DUE.is("sixteen kept, then forty that are all taken back", Due.orders(y, "sell 1 times 20; advance 0 by 1 times 20; leave 9"), -3);
        for (int i = 0; i < 15; i++) {
            DUE.is("undo()", y.undo(), 1);
        }
        DUE.is("undo()", y.undo(), 0);
        DUE.is("OIL", y.count(13), 0);
    }

    private static void stopped() {
        DUE.says("Promise 15: Which CLAUSE of the latest orders() could not be. NONE");
        WhaleLays x = sailed();
        DUE.is("ahead of any", x.stopped(), -1);
        Due.orders(x, "sell 1");
        DUE.is("behind one that was run", x.stopped(), -1);
        Due.orders(x, "sell 0");
        DUE.is("the first CLAUSE", x.stopped(), 0);
        x.hunt(0, 9);
        x.law();
        x.undo();
        DUE.is("others leave it", x.stopped(), 0);
        Due.orders(x, "hunt 0 for 0; sell 1" + ";sell 1".repeat(9) + ";sell 0");
        DUE.is("the last of twelve", x.stopped(), 11);
        Due.orders(x, "?");
        DUE.is("behind one that can't be read", x.stopped(), -1);
        Due.orders(x, "sell 1; leave 9");
        DUE.is("the second", x.stopped(), 1);
        Due.orders(x, "sell 1 if 1 = 2");
        DUE.is("behind one of which none was run", x.stopped(), -1);
    }
}
