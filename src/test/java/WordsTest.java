/** Promises 29, 30, 31, 32: word, forget, barrels, ask. */
public final class WordsTest {
    private static final Due DUE = new Due("WordsTest");

    public static void main(String[] args) {
        word();
        barrels();
        ask();
        DUE.close();
    }

    private static void word() {
        WhaleLays x = new WhaleLays();
        DUE.is("no hand", x.word(0, 0), -2);
        x.sign(10, 0);
        DUE.all("pence can't be", -1, () -> x.word(0, -1), () -> x.word(0, 1000000), () -> x.word(7, -1));
        DUE.all("no such hand", -2, () -> x.word(1, 0), () -> x.word(-1, 999999));
        for (int i = 1; i <= 8; i++) {
            DUE.is("word", x.word(0, i == 8 ? 999999 : 0), i);
        }
        DUE.is("no room", x.word(0, 0), -5);
        DUE.is("status", x.status(), -5);
        DUE.is("no such hand comes first", x.word(1, 0), -2);
        DUE.is("words", x.count(3), 8);
        DUE.is("forget", x.forget(), 8);
        DUE.is("forget", x.forget(), 0);
        DUE.is("words", x.count(3), 0);
        DUE.is("status is not forget's", x.status(), -2);
        DUE.is("word", x.word(0, 3), 1);
    }

    private static void barrels() {
        WhaleLays x = new WhaleLays();
        x.sign(75, 0);
        x.sign(40, 0);
        DUE.is("all", x.barrels(0), 201);
        DUE.is("least", x.barrels(1), 0);
        DUE.is("greatest", x.barrels(2), 200);
        x.word(0, 10);
        DUE.is("750 .. 824", x.barrels(0), 8);
        DUE.is("least", x.barrels(1), 75);
        DUE.is("greatest", x.barrels(2), 82);
        x.leave(0);
        DUE.is("gone alike", x.barrels(0), 8);
        x.word(1, 20);
        DUE.is("800 .. 824", x.barrels(0), 3);
        DUE.is("least", x.barrels(1), 80);
        DUE.is("greatest", x.barrels(2), 82);
        x.word(1, 21);
        DUE.is("both can't be", x.barrels(0), 0);
        DUE.is("no least", x.barrels(1), -1);
        DUE.is("no greatest", x.barrels(2), -1);
        x.forget();
        x.word(1, 0);
        x.price(0, 0);
        DUE.is("without a price all", x.barrels(0), 201);
        x.word(1, 1);
        DUE.is("or none", x.barrels(0), 0);
        x.forget();
        x.price(0, 1);
        x.word(1, 2);
        DUE.is("a price of 1: 80 .. 119", x.barrels(0), 40);
        DUE.is("greatest", x.barrels(2), 119);
        x.forget();
        x.price(0, 10);
        x.ground(9, 0, 0, 0);
        x.hunt(0, 2);
        x.sell(30);
        x.word(1, 8);
        DUE.is("with the purse: 320 .. 359 less 300", x.barrels(0), 4);
        DUE.is("least", x.barrels(1), 2);
        x.forget();
        x.word(1, 7);
        DUE.is("less than the purse", x.barrels(0), 2);
        DUE.is("least", x.barrels(1), 0);
        x.forget();
        x.word(1, 6);
        DUE.is("too little", x.barrels(0), 0);
        DUE.all("barrels of none", -1, () -> x.barrels(3), () -> x.barrels(-1));
    }

    private static void ask() {
        WhaleLays x = new WhaleLays();
        DUE.is("no hands", x.ask(0), -1);
        DUE.is("no hands", x.ask(1), -1);
        x.sign(100, 0);
        x.sign(30, 0);
        x.sign(30, 0);
        DUE.is("the lowest of the best", x.ask(0), 1);
        DUE.is("three at most", x.ask(1), 3);
        x.leave(1);
        DUE.is("gone alike", x.ask(0), 1);
        x.word(1, 10);
        DUE.is("30 .. 32: the first hand's whole is 3 for all", x.ask(0), 0);
        DUE.is("all three", x.ask(1), 3);
        x.forget();
        x.word(0, 3);
        DUE.is("30 .. 39", x.ask(0), 1);
        DUE.is("30 .. 32", x.ask(1), 3);
        DUE.all("ask of none", -1, () -> x.ask(2), () -> x.ask(-1));
        x.word(0, 4);
        DUE.is("no oils", x.ask(0), -1);
        DUE.is("no oils", x.ask(1), -1);
        x.forget();
        x.price(0, 0);
        DUE.is("no price: the lowest", x.ask(0), 0);
        DUE.is("no price: all", x.ask(1), 201);
    }
}
