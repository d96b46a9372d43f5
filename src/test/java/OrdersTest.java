/** Promises 13, 14, 15: orders, fault, stopped. */
public final class OrdersTest {
    private static final Due DUE = new Due("OrdersTest");

    public static void main(String[] args) {
        faults();
        runs();
        values();
        stops();
        undone();
        DUE.close();
    }

    private static WhaleLays ship() {
        WhaleLays x = new WhaleLays();
        x.sign(10, 7);
        x.sign(20, 0);
        x.ground(99, 0, 0, 0);
        x.ground(3, 0, 0, 0);
        return x;
    }

    private static void fault(String text, int place) {
        WhaleLays x = ship();
        int told = Due.orders(x, text);
        DUE.is("orders are read: " + text, told == -6 ? 0 : 1, place < 0 ? 1 : 0);
        DUE.is("fault: " + text, x.fault(), place);
        DUE.is("the tape is empty", x.count(6), 0);
    }

    private static void faults() {
        fault("", 0);
        fault("  ", 2);
        fault("casks 1", 0);
        fault("hunt 0", 6);
        fault("hunt 0 by 1", 7);
        fault("hunt 0 for", 10);
        fault("hunt0for1", -1);
        fault("advance 0 for 1", 10);
        fault("advance 0 by 1", -1);
        fault("sell", 4);
        fault("sell 1 for 2", 7);
        fault("leave 0 by 1", 8);
        fault("leave 0", -1);
        fault("leave 0 times 1 if 1 = 2", -1);
        fault("leave 0 if 1 = 2 times 2", 17);
        fault("leave 0 times 20", -1);
        fault("leave 0 times 21", 14);
        fault("leave 0 times 0", 14);
        fault("leave 0 times oil", 14);
        fault("leave 0 times", 13);
        fault("leave 0 times 2 times 2", 16);
        fault("leave debt", 10);
        fault("leave debt 7", -1);
        fault("leave debt 8", 11);
        fault("leave debt oil", 11);
        fault("leave debt [1]", 11);
        fault("leave whales 3", -1);
        fault("leave whales 4", 13);
        fault("leave whales", 12);
        fault("leave lay", 6);
        fault("leave crew", 6);
        fault("leave mood", 6);
        fault("leave served", 6);
        fault("leave month+done+gone+oil+purse+debt0+whales 0", -1);
        fault("leave 1" + "+1".repeat(49), -1);
        fault("leave 1" + "+1".repeat(50), 7 + 99);
        fault("leave 1" + "+1".repeat(48) + "+debt 1", -1);
        fault("leave 1" + "+1".repeat(49) + "+debt 1", 7 + 99);
        fault("leave 1" + "+1".repeat(49) + " times 3", -1);
        fault("leave 0" + ";leave 0".repeat(11), -1);
        fault("leave 0" + ";leave 0".repeat(12), 8 * 12);
        fault("leave [[[[[[[[1]]]]]]]]", -1);
        fault("leave [[[[[[[[[1]]]]]]]]]", 14);
    }

    private static void runs() {
        WhaleLays x = ship();
        DUE.is("orders", Due.orders(x, "hunt 0 for 2; hunt 1 for 1 times 2; sell 30; advance 1 by 50; leave 0"), 6);
        DUE.is("oil", x.count(13), 50);
        DUE.is("purse", x.count(14), 250);
        DUE.is("month", x.count(15), 3);
        DUE.is("debt", x.of(1, 1), 65);
        DUE.is("aboard", x.count(1), 1);
        DUE.is("whales", x.at(1, 0), 1);
        DUE.is("each can be undone", x.count(5), 6);
        DUE.is("status", x.status(), 0);
        DUE.is("stopped", x.stopped(), -1);
        DUE.is("none are run", Due.orders(x, "leave 0 times 20 if 1 = 2"), 0);
        DUE.is("a broken if", Due.orders(x, "leave 7 times 20 if 1 / 0 = 2"), 0);
        DUE.is("the rest is still run", Due.orders(x, "leave 7 if 1 / 0 = 2; sell 1"), 1);
    }

    private static void values() {
        WhaleLays x = ship();
        DUE.is("done", Due.orders(x, "hunt 0 for done times 3"), 3);
        DUE.is("oil of 0 + 1 + 2", x.count(13), 60);
        DUE.is("done begins anew", Due.orders(x, "hunt 0 for done + 1 times 2"), 2);
        DUE.is("oil", x.count(13), 120);
        DUE.is("each time the if is asked", Due.orders(x, "sell 10 times 20 if oil > 75"), 5);
        DUE.is("purse", x.count(14), 500);
        DUE.is("month", Due.orders(x, "sell 1 if month = 5"), 1);
        DUE.is("purse", Due.orders(x, "advance 0 by purse / 10 if purse = 510"), 1);
        DUE.is("debt", x.of(0, 1), 7 + 25 + 51);
        DUE.is("debt H", Due.orders(x, "sell 1 if debt 0 = 83 and debt 1 = 25 and debt 2 = 0 - 1 and debt 7 = 0 - 1"), 1);
        DUE.is("whales G", Due.orders(x, "sell 1 if whales 0 = 93 and whales 1 = 3 and whales 2 + whales 3 = 0 - 2"), 1);
        Due.rule(x, "deserts if hand = 1");
        DUE.is("gone", Due.orders(x, "sell 1 if gone = 0 - 1; hunt 0 for 0; sell 1 if gone = 1; hunt 0 for 0; sell 2 if gone = 0"), 5);
        DUE.is("gone begins anew", Due.orders(x, "sell 1 if gone = 0"), 0);
        DUE.is("one is left", x.count(1), 1);
    }

    private static void stop(String text, int clause) {
        WhaleLays x = ship();
        Due.orders(x, "hunt 0 for 3; sell 10");
        DUE.is("stops: " + text, Due.orders(x, text), -3);
        DUE.is("stopped: " + text, x.stopped(), clause);
        DUE.is("status", x.status(), -3);
        DUE.is("oil", x.count(13), 50);
        DUE.is("purse", x.count(14), 100);
        DUE.is("month", x.count(15), 1);
        DUE.is("aboard", x.count(1), 2);
        DUE.is("debt", x.of(0, 1), 12);
        DUE.is("whales", x.at(0, 0), 96);
        DUE.is("what can be undone", x.count(5), 2);
        DUE.is("no fault", x.fault(), -1);
        DUE.is("refused once", x.count(9), 1);
        DUE.is("by no other", x.count(7) + x.count(8) + x.count(10) + x.count(11), 0);
        Due.orders(x, "?");
        DUE.is("stopped is of the latest", x.stopped(), -1);
    }

    private static void stops() {
        stop("hunt 0 for 4", 0);
        stop("hunt 0 for 0 - 1", 0);
        stop("hunt 2 for 0", 0);
        stop("hunt 0 for 1; hunt 1 for 2 times 2", 1);
        stop("leave 0; leave 1; hunt 0 for 0", 2);
        stop("sell 0", 0);
        stop("sell 51", 0);
        stop("sell 1; sell 1000", 1);
        stop("sell 1 / 0", 0);
        stop("leave 0; advance 0 by 1", 1);
        stop("advance 0 by 101", 0);
        stop("advance 0 by 0", 0);
        stop("advance 2 by 1", 0);
        stop("leave 2", 0);
        stop("leave 0 times 2", 0);
        stop("hunt 0 for 1; advance 1 by 5; sell 10; leave 1; leave oil % 0", 4);
        stop("sell 1 times 20; sell 1 times 20; sell 1 times 11", 2);
    }

    private static void undone() {
        WhaleLays x = ship();
        x.hunt(0, 3);
        for (int i = 0; i < 15; i++) {
            x.sell(1);
        }
        DUE.is("as many as are kept", x.count(5), 16);
        DUE.is("stops late", Due.orders(x, "sell 1 times 20; leave 7"), -3);
        for (int i = 0; i < 15; i++) {
            DUE.is("a sell() is undone", x.undo(), 1);
        }
        DUE.is("the hunt() is undone", x.undo(), 0);
        DUE.is("as at first", x.count(15), 0);
        x.hunt(0, 3);
        DUE.is("orders", Due.orders(x, "sell 1 times 20"), 20);
        DUE.is("16 are kept", x.count(5), 16);
        for (int i = 0; i < 16; i++) {
            DUE.is("an order is undone", x.undo(), 1);
        }
        DUE.is("no more", x.undo(), -3);
        DUE.is("oil", x.count(13), 56);
    }
}
