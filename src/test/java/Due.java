import java.util.function.IntSupplier;
import java.util.function.LongSupplier;

/** Collects answers that are not the ones that are due. A test calls close() last. */
final class Due {
    private final String test;
    private String sentence = "";
    private int asked;
    private int wrong;

    Due(String test) {
        this.test = test;
    }

    /** The document's sentence that what is asked next is held against; told with a wrong answer. */
    void says(String words) {
        sentence = "\"" + words + "\": ";
    }

    void is(String call, long got, long want) {
        asked++;
        if (got != want) {
            wrong++;
            System.out.println(test + ": " + sentence + call + " answered " + got + ", due is " + want);
        }
    }

    void that(String what, boolean so) {
        is(what, so ? 1 : 0, 1);
    }

    void same(String what, String got, String want) {
        asked++;
        if (!got.equals(want)) {
            wrong++;
            System.out.println(test + ": " + sentence + what + ": " + got + ", due is " + want);
        }
    }

    /** A call that is REFUSED: told by its answer, by status() and by count(), and nothing else changes. */
    void refused(WhaleLays ship, String call, int by, IntSupplier ask) {
        int which = by > -4 ? 6 - by : 5 - by;
        String before = Seen.of(ship);
        int times = ship.count(which);
        is(call, ask.getAsInt(), by);
        is(call + ", then status()", ship.status(), by);
        is(call + ", then count(" + which + ")", ship.count(which), times + 1);
        same(call + " changes nothing", Seen.of(ship), before);
    }

    /** Several calls that are due the same answer. */
    void all(String calls, long want, LongSupplier... asks) {
        for (int i = 0; i < asks.length; i++) {
            is(calls + " [" + i + "]", asks[i].getAsLong(), want);
        }
    }

    void close() {
        System.out.println(test + ": " + asked + " answers, " + wrong + " not as due");
        if (wrong != 0 || asked == 0) {
            System.exit(1);
        }
    }

    /** Feeds a text to the TAPE, which must be empty. */
    static void text(WhaleLays ship, String text) {
        byte[] bytes = new byte[(text.length() + 19) / 20 * 20];
        for (int i = 0; i < text.length(); i++) {
            bytes[i] = (byte) text.charAt(i);
        }
        for (int i = 0; i < bytes.length; i += 20) {
            ship.feed(four(bytes, i), four(bytes, i + 4), four(bytes, i + 8), four(bytes, i + 12), four(bytes, i + 16));
        }
        ship.end(text.length());
    }

    static void bytes(WhaleLays ship, int... bytes) {
        StringBuilder text = new StringBuilder();
        for (int one : bytes) {
            text.append((char) one);
        }
        text(ship, text.toString());
    }

    private static int four(byte[] bytes, int from) {
        int four = 0;
        for (int i = 0; i < 4; i++) {
            four = four << 8 | bytes[from + i] & 255;
        }
        return four;
    }

    static int law(WhaleLays ship, String text) {
        text(ship, text);
        return ship.law();
    }

    /** The text becomes a LAW and is in FORCE. */
    static int rule(WhaleLays ship, String text) {
        int law = law(ship, text);
        ship.force(law);
        return law;
    }

    static int orders(WhaleLays ship, String text) {
        text(ship, text);
        return ship.orders();
    }
}
