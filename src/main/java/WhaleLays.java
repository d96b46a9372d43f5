/**
 * A whaler on which nobody has wages but each a lay. What every call answers is promised in
 * ../shared/DOC.md; the words in capitals here are that document's.
 */
public final class WhaleLays {
    public static final int NONE = -1;
    public static final int NOTHING = -100000000;

    private static final int BAD_NUMBER = -1;
    private static final int NO_SUCH = -2;
    private static final int CANNOT_BE = -3;
    private static final int NO_ROOM = -5;
    private static final int BAD_TEXT = -6;

    private static final int MOST_HANDS = 8;
    private static final int MOST_GROUNDS = 4;
    private static final int MOST_WORDS = 8;
    private static final int MOST_LAWS = 6;
    private static final int MOST_IMAGES = 2;
    private static final int MOST_UNDONE = 16;
    private static final int YEARS_PRICED = 6;
    private static final int MONTHS_A_YEAR = 12;
    private static final int LAST_MONTH = 71;
    private static final int MOST_LAY = 999;
    private static final int MOST_DEBT = 9999;
    private static final int MOST_PURSE = 999999;
    private static final int MOST_HOLD = 999;
    private static final int MOST_TAKEN = 3;
    private static final int ALL_ODDS = 10;
    private static final int HOME = 100;
    private static final long ALL_PARTS = 1000000000000L;

    private static final int MONTH = 0;
    private static final int HOLD = 1;
    private static final int MOOD = 2;

    private static final int MOST_BYTES = 400;
    private static final int MOST_CLAUSES = 12;
    private static final int MOST_PARTS = 50;
    private static final int MOST_BRACKETS = 8;
    private static final int MOST_NUMBER = 1000;
    private static final int MOST_TIMES = 20;

    /** The words of both languages; the place of one in this row is its TOKEN's kind. */
    private static final String WORDS =
        "hand lay debt served ground whales oil crew month mood done gone purse casks eats deserts hunt sell advance leave for by times if or and not ";
    private static final int W_HAND = 0;
    private static final int W_LAY = 1;
    private static final int W_DEBT = 2;
    private static final int W_SERVED = 3;
    private static final int W_GROUND = 4;
    private static final int W_WHALES = 5;
    private static final int W_OIL = 6;
    private static final int W_CREW = 7;
    private static final int W_MONTH = 8;
    private static final int W_MOOD = 9;
    private static final int W_DONE = 10;
    private static final int W_GONE = 11;
    private static final int W_PURSE = 12;
    private static final int W_CASKS = 13;
    private static final int W_EATS = 14;
    private static final int W_DESERTS = 15;
    private static final int W_HUNT = 16;
    private static final int W_SELL = 17;
    private static final int W_ADVANCE = 18;
    private static final int W_LEAVE = 19;
    private static final int W_FOR = 20;
    private static final int W_BY = 21;
    private static final int W_TIMES = 22;
    private static final int W_IF = 23;
    private static final int W_OR = 24;
    private static final int W_AND = 25;
    private static final int W_NOT = 26;
    private static final int T_UNKNOWN = 30;
    private static final int T_NUMBER = 31;
    private static final int T_END = 32;
    /** A single other byte is a TOKEN of the kind T_SIGN and its number. */
    private static final int T_SIGN = 100;

    /** Where "debt" H and "whales" G stand in a row of values, behind those of plain words. */
    private static final int V_DEBTS = 13;
    private static final int V_WHALES = 21;
    private static final int VALUES = 25;

    private static final int OP_STOP = 0;
    private static final int OP_NUMBER = 1;
    private static final int OP_VALUE = 2;
    private static final int OP_ADD = 3;
    private static final int OP_SUBTRACT = 4;
    private static final int OP_MULTIPLY = 5;
    private static final int OP_DIVIDE = 6;
    private static final int OP_REMAIN = 7;
    private static final int OP_LESS = 8;
    private static final int OP_MORE = 9;
    private static final int OP_EQUAL = 10;
    private static final int OP_NOT = 11;
    private static final int OP_OR = 12;
    private static final int OP_AND = 13;
    /** A step of code is its operation and OP_WIDTH times what it is done with. */
    private static final int OP_WIDTH = 16;

    private static final int MOST_VALUE = 1000000000;
    /** No SUM that is not BROKEN can be this. */
    private static final int BROKEN = -2000000000;

    private final Ship now = new Ship();
    private final Ship ahead = new Ship();
    private final Ship[] images = new Ship[MOST_IMAGES];
    /** The ship behind the latest YEARS; null ahead of any. */
    private Ship latest;
    private final Log log = new Log();
    private final Log logAhead = new Log();
    private final Tape tape = new Tape();
    private final Reader reader = new Reader();
    private final Judge judge = new Judge();
    private final Mate mate = new Mate(judge);
    private final Boatswain boatswain = new Boatswain(mate);
    private final Paper paper = new Paper(judge);
    private int faultPlace = NONE;
    private int sprayed;
    private int stoppedClause = NONE;
    private int refusedBy;
    /** How many calls were REFUSED, by the number less its sign. */
    private final int[] refusals = new int[7];

    public WhaleLays() {
    }

    public int sign(int lay, int debt) {
        if (lay < 1 || lay > MOST_LAY || debt < 0 || debt > MOST_DEBT) {
            return refuse(BAD_NUMBER);
        }
        if (now.hands >= MOST_HANDS) {
            return refuse(NO_ROOM);
        }
        log.clear();
        return accept(now.enlist(lay, debt));
    }

    public int of(int hand, int what) {
        if (!now.hasHand(hand)) {
            return NOTHING;
        }
        switch (what) {
            case 0:
                return now.lays[hand];
            case 1:
                return now.debts[hand];
            case 2:
                return now.joined[hand];
            case 3:
                return now.isAboard(hand) ? 1 : 0;
            case 4:
                return judge.eatenBy(now, hand);
            case 5:
                return judge.runsOff(now, hand, now.lays[hand], now.crewSize()) ? 1 : 0;
            case 6:
                return now.wholeOf(hand);
            case 7:
                return now.isAboard(hand) ? now.wholeOf(hand) - now.debts[hand] : 0;
            default:
                return NOTHING;
        }
    }

    public int ground(int whales, int one, int two, int three) {
        if (!Ship.groundCanBe(whales, one, two, three)) {
            return refuse(BAD_NUMBER);
        }
        if (now.grounds >= MOST_GROUNDS) {
            return refuse(NO_ROOM);
        }
        log.clear();
        return accept(now.addGround(whales, one, two, three));
    }

    public int at(int ground, int what) {
        if (!now.hasGround(ground)) {
            return NONE;
        }
        if (what == 0) {
            return now.whales[ground];
        }
        if (what >= 1 && what <= MOST_TAKEN) {
            return now.chanceOf(ground, what);
        }
        return what == 4 ? judge.casksOf(now, ground, now.crewSize()) : NONE;
    }

    public int price(int year, int pence) {
        if (year < 0 || year >= YEARS_PRICED || pence < 0 || pence > 99) {
            return refuse(BAD_NUMBER);
        }
        int was = now.prices[year];
        now.prices[year] = pence;
        return accept(was);
    }

    public int terms(int what, int value) {
        if (!termCanBe(what, value)) {
            return refuse(BAD_NUMBER);
        }
        log.clear();
        int was = now.termsNow[what];
        now.termsNow[what] = value;
        return accept(was);
    }

    public int feed(int a, int b, int c, int d, int e) {
        if (tape.size + 20 > MOST_BYTES) {
            return NONE;
        }
        tape.put(a);
        tape.put(b);
        tape.put(c);
        tape.put(d);
        tape.put(e);
        return tape.size;
    }

    public int end(int n) {
        if (n < 0 || n > tape.size) {
            return NONE;
        }
        tape.size = n;
        return n;
    }

    public int row() {
        int size = tape.taken();
        if (size == 0) {
            return refuse(BAD_TEXT);
        }
        int came = 0;
        sprayed = 0;
        for (int from = 0; from < size; from += 4) {
            if (from + 4 <= size && groundCame(from)) {
                came++;
            } else {
                sprayed++;
            }
        }
        log.clear();
        return accept(came);
    }

    public int spray() {
        return sprayed;
    }

    public int law() {
        int size = tape.taken();
        if (now.laws >= MOST_LAWS) {
            return refuse(NO_ROOM);
        }
        faultPlace = reader.read(tape, size, true);
        if (faultPlace != NONE) {
            return refuse(BAD_TEXT);
        }
        return accept(now.addLaw(reader.text.packed()));
    }

    public int orders() {
        stoppedClause = NONE;
        faultPlace = reader.read(tape, tape.taken(), false);
        if (faultPlace != NONE) {
            return refuse(BAD_TEXT);
        }
        ahead.become(now);
        logAhead.become(log);
        int done = boatswain.run(reader.text, now, log);
        if (done < 0) {
            stoppedClause = boatswain.stoppedClause;
            now.become(ahead);
            log.become(logAhead);
            return refuse(CANNOT_BE);
        }
        return accept(done);
    }

    public int fault() {
        return faultPlace;
    }

    public int stopped() {
        return stoppedClause;
    }

    public int force(int law) {
        if (law != NONE && (law < 0 || law >= now.laws)) {
            return refuse(NO_SUCH);
        }
        int was = now.inForce;
        now.inForce = law;
        return accept(was);
    }

    public int hunt(int ground, int whales) {
        return answer(mate.act(now, log, W_HUNT, ground, whales));
    }

    public int sell(int casks) {
        return answer(mate.act(now, log, W_SELL, casks, 0));
    }

    public int advance(int hand, int pence) {
        return answer(mate.act(now, log, W_ADVANCE, hand, pence));
    }

    public int leave(int hand) {
        return answer(mate.act(now, log, W_LEAVE, hand, 0));
    }

    public int undo() {
        return answer(log.takeBack(now));
    }

    public int money(int what) {
        if (what == 0) {
            return now.moneyNow();
        }
        return what == 1 ? now.ownersNow() : NOTHING;
    }

    public long parts() {
        long together = 0;
        for (int hand = 0; hand < now.hands; hand++) {
            if (now.isAboard(hand)) {
                together += now.partsOf(hand);
            }
        }
        return together;
    }

    public long best(int n, int what) {
        if (n < 0 || n > 12 || what < 0 || what > 1) {
            return NONE;
        }
        return paper.bestOf(now, n, what == 1);
    }

    public long odds(int ground, int n, int oil) {
        if (!now.hasGround(ground) || n < 0 || n > Paper.MOST_ODDS_MONTHS || oil < 0 || oil > MOST_HOLD) {
            return NONE;
        }
        return paper.chanceOfOil(now, ground, n, oil);
    }

    public int left(int what) {
        if (what < 0 || what > 1) {
            return NONE;
        }
        return paper.atRest(now, what == 1);
    }

    public int least(int hand) {
        if (!now.hasHand(hand) || !now.isAboard(hand)) {
            return NONE;
        }
        return paper.greatestLay(now, hand);
    }

    public long crew(int ground, int casks, int what) {
        if (!now.hasGround(ground) || casks < 1 || casks > 99 || what < 0 || what > 1) {
            return NONE;
        }
        return paper.cheapestCrew(now, ground, casks, what == 1);
    }

    public int word(int hand, int pence) {
        if (pence < 0 || pence > MOST_PURSE) {
            return refuse(BAD_NUMBER);
        }
        if (!now.hasHand(hand)) {
            return refuse(NO_SUCH);
        }
        if (now.words >= MOST_WORDS) {
            return refuse(NO_ROOM);
        }
        return accept(now.addWord(hand, pence));
    }

    public int forget() {
        int were = now.words;
        now.words = 0;
        return were;
    }

    public int barrels(int what) {
        paper.weigh(now);
        boolean some = paper.leastOil <= paper.mostOil;
        switch (what) {
            case 0:
                return some ? paper.mostOil - paper.leastOil + 1 : 0;
            case 1:
                return some ? paper.leastOil : NONE;
            case 2:
                return some ? paper.mostOil : NONE;
            default:
                return NONE;
        }
    }

    public int ask(int what) {
        if (what < 0 || what > 1) {
            return NONE;
        }
        return paper.toAsk(now, what == 1);
    }

    public int years(int seed, int n) {
        if (seed < 0 || seed > 1000000 || n < 1 || n > 60) {
            return refuse(BAD_NUMBER);
        }
        if (now.grounds == 0) {
            return refuse(CANNOT_BE);
        }
        if (latest == null) {
            latest = new Ship();
        }
        latest.become(now);
        return accept(mate.drift(latest, seed, n));
    }

    public int drawn(int k, int what) {
        if (latest == null) {
            return NONE;
        }
        switch (what) {
            case 0:
                return latest.oil;
            case 1:
                return latest.termsNow[MONTH];
            case 2:
                return latest.hasGround(k) ? latest.whales[k] : NONE;
            case 3:
                return latest.hasHand(k) ? latest.debts[k] : NONE;
            default:
                return NONE;
        }
    }

    public int image(int k) {
        if (k < 0 || k >= MOST_IMAGES) {
            return refuse(BAD_NUMBER);
        }
        if (images[k] == null) {
            images[k] = new Ship();
        }
        images[k].become(now);
        return accept(0);
    }

    public int back(int k) {
        if (k < 0 || k >= MOST_IMAGES) {
            return refuse(BAD_NUMBER);
        }
        if (images[k] == null) {
            return refuse(NO_SUCH);
        }
        now.become(images[k]);
        log.clear();
        return accept(0);
    }

    public int count(int what) {
        if (what >= 15 && what <= 17) {
            return now.termsNow[what - 15];
        }
        if (what >= 18 && what < 18 + YEARS_PRICED) {
            return now.prices[what - 18];
        }
        switch (what) {
            case 0:
                return now.hands;
            case 1:
                return now.crewSize();
            case 2:
                return now.grounds;
            case 3:
                return now.words;
            case 4:
                return now.laws;
            case 5:
                return log.size;
            case 6:
                return tape.size;
            case 7:
                return refusals[-BAD_NUMBER];
            case 8:
                return refusals[-NO_SUCH];
            case 9:
                return refusals[-CANNOT_BE];
            case 10:
                return refusals[-NO_ROOM];
            case 11:
                return refusals[-BAD_TEXT];
            case 12:
                return now.inForce;
            case 13:
                return now.oil;
            case 14:
                return now.purse;
            default:
                return NONE;
        }
    }

    public int status() {
        return refusedBy;
    }

    private int refuse(int by) {
        refusedBy = by;
        if (-by > 0 && -by < refusals.length) {
            refusals[-by]++;
        }
        return by;
    }

    private int accept(int told) {
        refusedBy = 0;
        return told;
    }

    /** For calls that answer below 0 only when they are REFUSED. */
    private int answer(int told) {
        return told < 0 ? refuse(told) : accept(told);
    }

    private boolean termCanBe(int what, int value) {
        switch (what) {
            case MONTH:
                return value >= 0 && value <= LAST_MONTH;
            case HOLD:
                return value >= 1 && value <= MOST_HOLD && value >= now.oil;
            case MOOD:
                return value >= 0 && value <= 9;
            default:
                return false;
        }
    }

    private boolean groundCame(int from) {
        int whales = tape.byteAt(from);
        int one = tape.byteAt(from + 1);
        int two = tape.byteAt(from + 2);
        int three = tape.byteAt(from + 3);
        if (now.grounds >= MOST_GROUNDS || !Ship.groundCanBe(whales, one, two, three)) {
            return false;
        }
        now.addGround(whales, one, two, three);
        return true;
    }

    /** The bytes of which TEXTS and ROWS are made. */
    private static final class Tape {
        private final int[] bytes = new int[MOST_BYTES];
        private int size;

        void put(int four) {
            for (int shift = 24; shift >= 0 && size < MOST_BYTES; shift -= 8) {
                bytes[size] = (four >> shift) & 255;
                size++;
            }
        }

        int byteAt(int place) {
            return place >= 0 && place < MOST_BYTES ? bytes[place] : 0;
        }

        /** How many bytes there were; the TAPE is empty then, but they can still be read. */
        int taken() {
            int was = size;
            size = 0;
            return was;
        }
    }

    /** All that an IMAGE keeps. */
    private static final class Ship {
        private int hands;
        private final int[] lays = new int[MOST_HANDS];
        private final int[] debts = new int[MOST_HANDS];
        private final int[] joined = new int[MOST_HANDS];
        /** Who is ABOARD, as bits. */
        private int aboard;
        private int grounds;
        private final int[] whales = new int[MOST_GROUNDS];
        /** Three for each GROUND: of one, two, three whales. */
        private final int[] chances = new int[MOST_GROUNDS * MOST_TAKEN];
        private int oil;
        private int purse;
        private final int[] prices = {10, 10, 10, 10, 10, 10};
        private final int[] termsNow = {0, 200, 0};
        private int words;
        private final int[] wordHands = new int[MOST_WORDS];
        private final int[] wordPence = new int[MOST_WORDS];
        private int laws;
        private final Text[] lawTexts = new Text[MOST_LAWS];
        private int inForce = NONE;

        static boolean groundCanBe(int whales, int one, int two, int three) {
            return whales >= 0 && whales <= 99
                && one >= 0 && one <= ALL_ODDS
                && two >= 0 && two <= ALL_ODDS
                && three >= 0 && three <= ALL_ODDS
                && one + two + three <= ALL_ODDS;
        }

        void become(Ship other) {
            hands = other.hands;
            System.arraycopy(other.lays, 0, lays, 0, MOST_HANDS);
            System.arraycopy(other.debts, 0, debts, 0, MOST_HANDS);
            System.arraycopy(other.joined, 0, joined, 0, MOST_HANDS);
            aboard = other.aboard;
            grounds = other.grounds;
            System.arraycopy(other.whales, 0, whales, 0, MOST_GROUNDS);
            System.arraycopy(other.chances, 0, chances, 0, MOST_GROUNDS * MOST_TAKEN);
            oil = other.oil;
            purse = other.purse;
            System.arraycopy(other.prices, 0, prices, 0, YEARS_PRICED);
            System.arraycopy(other.termsNow, 0, termsNow, 0, 3);
            words = other.words;
            System.arraycopy(other.wordHands, 0, wordHands, 0, MOST_WORDS);
            System.arraycopy(other.wordPence, 0, wordPence, 0, MOST_WORDS);
            laws = other.laws;
            for (int law = 0; law < MOST_LAWS; law++) {
                lawTexts[law] = other.lawTexts[law];
            }
            inForce = other.inForce;
        }

        boolean hasHand(int hand) {
            return hand >= 0 && hand < hands;
        }

        boolean hasGround(int ground) {
            return ground >= 0 && ground < grounds;
        }

        boolean isAboard(int hand) {
            return (aboard >> hand & 1) == 1;
        }

        int crewSize() {
            return Integer.bitCount(aboard);
        }

        int enlist(int lay, int debt) {
            int hand = hands;
            lays[hand] = lay;
            debts[hand] = debt;
            joined[hand] = termsNow[MONTH];
            aboard |= 1 << hand;
            hands++;
            return hand;
        }

        int addGround(int many, int one, int two, int three) {
            int ground = grounds;
            whales[ground] = many;
            chances[ground * MOST_TAKEN] = one;
            chances[ground * MOST_TAKEN + 1] = two;
            chances[ground * MOST_TAKEN + 2] = three;
            grounds++;
            return ground;
        }

        int addLaw(Text text) {
            int law = laws;
            lawTexts[law] = text;
            laws++;
            return law;
        }

        int addWord(int hand, int pence) {
            wordHands[words] = hand;
            wordPence[words] = pence;
            words++;
            return words;
        }

        /** The LAW in FORCE; null without. */
        Text lawInForce() {
            return inForce >= 0 && inForce < laws ? lawTexts[inForce] : null;
        }

        /** In ten: how likely so many whales 0 .. 3 are in a month. */
        int chanceOf(int ground, int taken) {
            int first = ground * MOST_TAKEN;
            if (taken == 0) {
                return ALL_ODDS - chances[first] - chances[first + 1] - chances[first + 2];
            }
            return chances[first + taken - 1];
        }

        int priceIn(int month) {
            int year = month / MONTHS_A_YEAR;
            return year >= 0 && year < YEARS_PRICED ? prices[year] : 0;
        }

        int moneyNow() {
            return purse + oil * priceIn(termsNow[MONTH]);
        }

        int wholeBy(int hand, int money) {
            return lays[hand] < 1 ? 0 : money / lays[hand];
        }

        int wholeOf(int hand) {
            return isAboard(hand) ? wholeBy(hand, moneyNow()) : 0;
        }

        int ownersNow() {
            int rest = moneyNow();
            for (int hand = 0; hand < hands; hand++) {
                rest -= wholeOf(hand);
            }
            return rest;
        }

        long partsOf(int hand) {
            return lays[hand] < 1 ? 0 : ALL_PARTS / lays[hand];
        }
    }

    /** What can be undone: ahead of each, what hunt(), sell(), advance(), leave() can change. */
    private static final class Log {
        /** One slot more than is kept, so that what turns out REFUSED costs none of these. */
        private static final int SLOTS = MOST_UNDONE + 1;
        private static final int WIDTH = MOST_HANDS + MOST_GROUNDS + 4;
        private final int[] kinds = new int[SLOTS];
        private final int[] states = new int[SLOTS * WIDTH];
        private int first;
        private int size;

        void clear() {
            size = 0;
        }

        void become(Log other) {
            System.arraycopy(other.kinds, 0, kinds, 0, SLOTS);
            System.arraycopy(other.states, 0, states, 0, SLOTS * WIDTH);
            first = other.first;
            size = other.size;
        }

        void note(Ship ship) {
            int from = (first + size) % SLOTS * WIDTH;
            System.arraycopy(ship.debts, 0, states, from, MOST_HANDS);
            System.arraycopy(ship.whales, 0, states, from + MOST_HANDS, MOST_GROUNDS);
            int rest = from + MOST_HANDS + MOST_GROUNDS;
            states[rest] = ship.aboard;
            states[rest + 1] = ship.oil;
            states[rest + 2] = ship.purse;
            states[rest + 3] = ship.termsNow[MONTH];
        }

        void keepNoted(int kind) {
            kinds[(first + size) % SLOTS] = kind;
            if (size < MOST_UNDONE) {
                size++;
            } else {
                first = (first + 1) % SLOTS;
            }
        }

        int takeBack(Ship ship) {
            if (size == 0) {
                return CANNOT_BE;
            }
            size--;
            int slot = (first + size) % SLOTS;
            int from = slot * WIDTH;
            System.arraycopy(states, from, ship.debts, 0, MOST_HANDS);
            System.arraycopy(states, from + MOST_HANDS, ship.whales, 0, MOST_GROUNDS);
            int rest = from + MOST_HANDS + MOST_GROUNDS;
            ship.aboard = states[rest];
            ship.oil = states[rest + 1];
            ship.purse = states[rest + 2];
            ship.termsNow[MONTH] = states[rest + 3];
            return kinds[slot];
        }
    }

    /** A TEXT that was read: a head for each CLAUSE, and the code of their SUMS and TESTS. */
    private static final class Text {
        private static final int KIND = 0;
        private static final int FIRST = 1;
        private static final int SECOND = 2;
        private static final int TEST = 3;
        private static final int TIMES = 4;
        private static final int WIDTH = 5;
        private int clauses;
        private int used;
        private final int[] heads;
        private final int[] code;

        Text(int mostClauses, int mostCode) {
            heads = new int[mostClauses * WIDTH];
            code = new int[mostCode];
        }

        /** A copy with no more room than it needs: the reader uses this one again. */
        Text packed() {
            Text copy = new Text(clauses, used);
            copy.clauses = clauses;
            copy.used = used;
            System.arraycopy(heads, 0, copy.heads, 0, clauses * WIDTH);
            System.arraycopy(code, 0, copy.code, 0, used);
            return copy;
        }

        void clear() {
            clauses = 0;
            used = 0;
        }

        void open(int kind) {
            if ((clauses + 1) * WIDTH > heads.length) {
                return;
            }
            clauses++;
            set(KIND, kind);
            set(FIRST, NONE);
            set(SECOND, NONE);
            set(TEST, NONE);
            set(TIMES, 1);
        }

        /** Of the CLAUSE that was opened last. */
        void set(int what, int value) {
            int place = (clauses - 1) * WIDTH + what;
            if (place >= 0 && place < heads.length) {
                heads[place] = value;
            }
        }

        int get(int clause, int what) {
            int place = clause * WIDTH + what;
            return place >= 0 && place < heads.length ? heads[place] : NONE;
        }

        void emit(int operation, int with) {
            if (used < code.length) {
                code[used] = operation + OP_WIDTH * with;
                used++;
            }
        }

        /** The step at a place goes on at what comes next. */
        void aim(int place, int operation) {
            if (place >= 0 && place < used) {
                code[place] = operation + OP_WIDTH * used;
            }
        }
    }

    /** Reads TEXTS of both languages. */
    private static final class Reader {
        /** The TOKENS of the TEXT, the end's the last. */
        private final int[] kinds = new int[MOST_BYTES + 1];
        private final int[] places = new int[MOST_BYTES + 1];
        private final int[] numbers = new int[MOST_BYTES + 1];
        private int tokens;
        private int next;
        private int fault;
        private int parts;
        private int brackets;
        private boolean ofLaws;
        /** The latest TEXT that was read, as far as there was no FAULT. */
        private final Text text = new Text(MOST_CLAUSES, MOST_BYTES);

        /** FAULT of the TAPE's first bytes as a TEXT; NONE without. */
        int read(Tape tape, int size, boolean isLaw) {
            cut(tape, Math.min(size, MOST_BYTES));
            text.clear();
            ofLaws = isLaw;
            next = 0;
            fault = NONE;
            parts = 0;
            brackets = 0;
            boolean more = true;
            for (int clause = 0; more && clause <= MOST_CLAUSES; clause++) {
                if (clause == MOST_CLAUSES) {
                    fail();
                } else {
                    clause();
                }
                more = stands(T_SIGN + ';');
                if (more) {
                    next++;
                }
            }
            if (!stands(T_END)) {
                fail();
            }
            return fault;
        }

        private void cut(Tape tape, int size) {
            tokens = 0;
            int from = 0;
            while (from < size) {
                int to = from + 1;
                int first = tape.byteAt(from);
                if (isLetter(first)) {
                    while (to < size && isLetter(tape.byteAt(to))) {
                        to++;
                    }
                    note(from, wordAt(tape, from, to), 0);
                } else if (isDigit(first)) {
                    int number = first - '0';
                    while (to < size && isDigit(tape.byteAt(to))) {
                        number = Math.min(MOST_NUMBER + 1, number * 10 + tape.byteAt(to) - '0');
                        to++;
                    }
                    note(from, T_NUMBER, number);
                } else if (first != ' ') {
                    note(from, T_SIGN + first, 0);
                }
                from = to;
            }
            note(size, T_END, 0);
        }

        private void note(int place, int kind, int number) {
            if (tokens < kinds.length) {
                places[tokens] = place;
                kinds[tokens] = kind;
                numbers[tokens] = number;
                tokens++;
            }
        }

        private static boolean isLetter(int sign) {
            return sign >= 'a' && sign <= 'z';
        }

        private static boolean isDigit(int sign) {
            return sign >= '0' && sign <= '9';
        }

        private static int wordAt(Tape tape, int from, int to) {
            int word = 0;
            int place = from;
            boolean same = true;
            for (int i = 0; i < WORDS.length(); i++) {
                char letter = WORDS.charAt(i);
                if (letter != ' ') {
                    same = same && place < to && tape.byteAt(place) == letter;
                    place++;
                } else if (same && place == to) {
                    return word;
                } else {
                    word++;
                    place = from;
                    same = true;
                }
            }
            return T_UNKNOWN;
        }

        /** Whether such a TOKEN comes; never behind a FAULT, so that reading ends there. */
        private boolean stands(int kind) {
            return fault == NONE && next < tokens && kinds[next] == kind;
        }

        private void fail() {
            if (fault == NONE) {
                fault = next < tokens ? places[next] : 0;
            }
        }

        private void take(int kind) {
            if (stands(kind)) {
                next++;
            } else {
                fail();
            }
        }

        private void clause() {
            int kind = next < tokens ? kinds[next] : T_END;
            int from = ofLaws ? W_CASKS : W_HUNT;
            int to = ofLaws ? W_DESERTS : W_LEAVE;
            if (kind < from || kind > to) {
                fail();
                return;
            }
            text.open(kind);
            next++;
            if (kind != W_DESERTS) {
                sumOf(Text.FIRST);
            }
            if (kind == W_HUNT || kind == W_ADVANCE) {
                take(kind == W_HUNT ? W_FOR : W_BY);
                sumOf(Text.SECOND);
            }
            if (!ofLaws && stands(W_TIMES)) {
                next++;
                times();
            }
            if (stands(W_IF)) {
                next++;
                text.set(Text.TEST, text.used);
                test();
                text.emit(OP_STOP, 0);
            }
        }

        private void sumOf(int what) {
            text.set(what, text.used);
            sum();
            text.emit(OP_STOP, 0);
        }

        private void times() {
            if (stands(T_NUMBER) && numbers[next] >= 1 && numbers[next] <= MOST_TIMES) {
                text.set(Text.TIMES, numbers[next]);
                next++;
            } else {
                fail();
            }
        }

        private void test() {
            both();
            for (int i = 0; i < MOST_BYTES && stands(W_OR); i++) {
                int jump = text.used;
                next++;
                text.emit(OP_OR, 0);
                both();
                text.aim(jump, OP_OR);
            }
        }

        private void both() {
            plain();
            for (int i = 0; i < MOST_BYTES && stands(W_AND); i++) {
                int jump = text.used;
                next++;
                text.emit(OP_AND, 0);
                plain();
                text.aim(jump, OP_AND);
            }
        }

        private void plain() {
            boolean turned = false;
            for (int i = 0; i < MOST_BYTES && stands(W_NOT); i++) {
                turned = !turned;
                next++;
            }
            if (stands(T_SIGN + '(')) {
                if (opened()) {
                    test();
                    closed(')');
                }
            } else {
                sum();
                int operation = compares();
                if (operation == OP_STOP) {
                    fail();
                } else {
                    next++;
                    sum();
                    text.emit(operation, 0);
                }
            }
            if (turned) {
                text.emit(OP_NOT, 0);
            }
        }

        /** What the TOKEN that comes asks of two SUMS; OP_STOP, if it does not. */
        private int compares() {
            if (stands(T_SIGN + '<')) {
                return OP_LESS;
            }
            if (stands(T_SIGN + '>')) {
                return OP_MORE;
            }
            return stands(T_SIGN + '=') ? OP_EQUAL : OP_STOP;
        }

        private void sum() {
            term();
            for (int i = 0; i < MOST_BYTES && (stands(T_SIGN + '+') || stands(T_SIGN + '-')); i++) {
                int operation = stands(T_SIGN + '+') ? OP_ADD : OP_SUBTRACT;
                next++;
                term();
                text.emit(operation, 0);
            }
        }

        private void term() {
            part();
            int operation = multiplies();
            for (int i = 0; i < MOST_BYTES && operation != OP_STOP; i++) {
                next++;
                part();
                text.emit(operation, 0);
                operation = multiplies();
            }
        }

        private int multiplies() {
            if (stands(T_SIGN + '*')) {
                return OP_MULTIPLY;
            }
            if (stands(T_SIGN + '/')) {
                return OP_DIVIDE;
            }
            return stands(T_SIGN + '%') ? OP_REMAIN : OP_STOP;
        }

        private void part() {
            if (stands(T_SIGN + '[')) {
                if (opened()) {
                    sum();
                    closed(']');
                }
            } else if (fault != NONE || parts >= MOST_PARTS) {
                fail();
            } else if (stands(T_NUMBER) && numbers[next] <= MOST_NUMBER) {
                parts++;
                text.emit(OP_NUMBER, numbers[next]);
                next++;
            } else {
                parts++;
                named();
            }
        }

        /** A PART that is a word. */
        private void named() {
            int kind = next < tokens ? kinds[next] : T_END;
            if (ofLaws ? isLawWord(kind) : isOrderWord(kind)) {
                next++;
                text.emit(OP_VALUE, kind);
            } else if (!ofLaws && (kind == W_DEBT || kind == W_WHALES)) {
                next++;
                int many = kind == W_DEBT ? MOST_HANDS : MOST_GROUNDS;
                if (stands(T_NUMBER) && numbers[next] < many) {
                    text.emit(OP_VALUE, (kind == W_DEBT ? V_DEBTS : V_WHALES) + numbers[next]);
                    next++;
                } else {
                    fail();
                }
            } else {
                fail();
            }
        }

        private static boolean isLawWord(int kind) {
            return kind >= W_HAND && kind <= W_MOOD;
        }

        private static boolean isOrderWord(int kind) {
            return kind == W_OIL || kind == W_MONTH || kind >= W_DONE && kind <= W_PURSE;
        }

        private boolean opened() {
            if (brackets >= MOST_BRACKETS) {
                fail();
                return false;
            }
            brackets++;
            next++;
            return true;
        }

        private void closed(char by) {
            take(T_SIGN + by);
            brackets--;
        }
    }

    /** Works out SUMS and TESTS. */
    private static final class Machine {
        private final int[] stack = new int[64];

        /** A SUM, or a TEST (1 so, 0 not so), whose code begins there; or BROKEN. */
        int value(int[] code, int from, int[] values) {
            int size = 0;
            int place = from;
            for (int steps = 0; steps < code.length && place >= 0 && place < code.length; steps++) {
                int operation = code[place] % OP_WIDTH;
                int with = code[place] / OP_WIDTH;
                place++;
                if (operation == OP_STOP) {
                    break;
                }
                if (size >= stack.length || operation == OP_VALUE && with >= values.length) {
                    return BROKEN;
                }
                if (operation == OP_NUMBER || operation == OP_VALUE) {
                    stack[size] = operation == OP_NUMBER ? with : values[with];
                    size++;
                } else if (size < 1) {
                    return BROKEN;
                } else if (operation == OP_NOT) {
                    stack[size - 1] = 1 - stack[size - 1];
                } else if (operation == OP_OR || operation == OP_AND) {
                    if (stack[size - 1] == (operation == OP_OR ? 1 : 0)) {
                        place = with;
                    } else {
                        size--;
                    }
                } else if (size < 2) {
                    return BROKEN;
                } else {
                    size--;
                    stack[size - 1] = joined(operation, stack[size - 1], stack[size]);
                    if (stack[size - 1] == BROKEN) {
                        return BROKEN;
                    }
                }
            }
            return size == 1 ? stack[0] : BROKEN;
        }

        private static int joined(int operation, long left, long right) {
            long result = 0;
            switch (operation) {
                case OP_LESS:
                    return left < right ? 1 : 0;
                case OP_MORE:
                    return left > right ? 1 : 0;
                case OP_EQUAL:
                    return left == right ? 1 : 0;
                case OP_ADD:
                    result = left + right;
                    break;
                case OP_SUBTRACT:
                    result = left - right;
                    break;
                case OP_MULTIPLY:
                    result = left * right;
                    break;
                default:
                    if (right == 0) {
                        return BROKEN;
                    }
                    result = operation == OP_DIVIDE ? left / right : left % right;
                    break;
            }
            return result > MOST_VALUE || result < -MOST_VALUE ? BROKEN : (int) result;
        }
    }

    /** Tells what the LAW in FORCE says. */
    private static final class Judge {
        private final Machine machine = new Machine();
        private final int[] values = new int[VALUES];

        /** How many CASKS a whale of a GROUND gives with so many in the crew. */
        int casksOf(Ship ship, int ground, int crew) {
            Text law = ship.lawInForce();
            if (law == null) {
                return 20;
            }
            values[W_HAND] = NONE;
            values[W_LAY] = NONE;
            values[W_DEBT] = NONE;
            values[W_SERVED] = NONE;
            values[W_GROUND] = ground;
            values[W_WHALES] = ship.whales[ground];
            askAboutShip(ship, crew);
            int told = lastTold(law, W_CASKS);
            return told == BROKEN ? 20 : Math.max(1, Math.min(99, told));
        }

        int eatenBy(Ship ship, int hand) {
            Text law = ship.lawInForce();
            if (law == null) {
                return 5;
            }
            askAboutHand(ship, hand, ship.lays[hand]);
            askAboutShip(ship, ship.crewSize());
            int told = lastTold(law, W_EATS);
            return told == BROKEN ? 5 : Math.max(0, Math.min(99, told));
        }

        /** Whether a HAND DESERTS, were its LAY this one and so many in the crew. */
        boolean runsOff(Ship ship, int hand, int lay, int crew) {
            Text law = ship.lawInForce();
            if (law == null) {
                return false;
            }
            askAboutHand(ship, hand, lay);
            askAboutShip(ship, crew);
            return lastTold(law, W_DESERTS) != BROKEN;
        }

        private void askAboutHand(Ship ship, int hand, int lay) {
            values[W_HAND] = hand;
            values[W_LAY] = lay;
            values[W_DEBT] = ship.debts[hand];
            values[W_SERVED] = ship.termsNow[MONTH] - ship.joined[hand];
            values[W_GROUND] = NONE;
            values[W_WHALES] = NONE;
        }

        private void askAboutShip(Ship ship, int crew) {
            values[W_OIL] = ship.oil;
            values[W_CREW] = crew;
            values[W_MONTH] = ship.termsNow[MONTH];
            values[W_MOOD] = ship.termsNow[MOOD];
        }

        /** What the last CLAUSE of that kind that HOLDS tells; BROKEN, if none HOLDS. */
        private int lastTold(Text law, int kind) {
            for (int clause = law.clauses - 1; clause >= 0; clause--) {
                if (law.get(clause, Text.KIND) != kind) {
                    continue;
                }
                int test = law.get(clause, Text.TEST);
                if (test != NONE && machine.value(law.code, test, values) != 1) {
                    continue;
                }
                int sum = law.get(clause, Text.FIRST);
                int told = sum == NONE ? 1 : machine.value(law.code, sum, values);
                if (told != BROKEN) {
                    return told;
                }
            }
            return BROKEN;
        }
    }

    /** Does what hunt(), sell(), advance(), leave() and YEARS ask for. */
    private static final class Mate {
        private final Judge judge;
        private final int[] eaten = new int[MOST_HANDS];

        Mate(Judge judge) {
            this.judge = judge;
        }

        /** What the call of that kind answers; what it did can be undone. */
        int act(Ship ship, Log log, int kind, int one, int other) {
            log.note(ship);
            int told = BAD_NUMBER;
            switch (kind) {
                case W_HUNT:
                    told = takeWhales(ship, one, other);
                    if (told >= 0) {
                        told = runAway(ship);
                    }
                    break;
                case W_SELL:
                    told = sellOff(ship, one);
                    break;
                case W_ADVANCE:
                    told = payOut(ship, one, other);
                    break;
                default:
                    told = putAshore(ship, one);
                    break;
            }
            if (told >= 0) {
                log.keepNoted(kind - W_HUNT);
            }
            return told;
        }

        /** To HUNT, but for those who DESERT then: 0, or what it is REFUSED by. */
        private int takeWhales(Ship ship, int ground, int taken) {
            if (taken < 0 || taken > MOST_TAKEN) {
                return BAD_NUMBER;
            }
            if (!ship.hasGround(ground)) {
                return NO_SUCH;
            }
            if (ship.aboard == 0 || ship.termsNow[MONTH] >= LAST_MONTH || taken > ship.whales[ground]) {
                return CANNOT_BE;
            }
            int casks = judge.casksOf(ship, ground, ship.crewSize());
            for (int hand = 0; hand < ship.hands; hand++) {
                eaten[hand] = ship.isAboard(hand) ? judge.eatenBy(ship, hand) : 0;
            }
            ship.oil = Math.min(ship.termsNow[HOLD], ship.oil + casks * taken);
            ship.whales[ground] -= taken;
            for (int hand = 0; hand < ship.hands; hand++) {
                ship.debts[hand] = Math.min(MOST_DEBT, ship.debts[hand] + eaten[hand]);
            }
            ship.termsNow[MONTH]++;
            return 0;
        }

        /** All are asked ahead of anybody's going: how many are GONE. */
        private int runAway(Ship ship) {
            int crew = ship.crewSize();
            int going = 0;
            for (int hand = 0; hand < ship.hands; hand++) {
                if (ship.isAboard(hand) && judge.runsOff(ship, hand, ship.lays[hand], crew)) {
                    going |= 1 << hand;
                }
            }
            ship.aboard &= ~going;
            return Integer.bitCount(going);
        }

        private int sellOff(Ship ship, int casks) {
            if (casks < 1 || casks > MOST_HOLD) {
                return BAD_NUMBER;
            }
            if (casks > ship.oil) {
                return CANNOT_BE;
            }
            ship.oil -= casks;
            ship.purse = Math.min(MOST_PURSE, ship.purse + casks * ship.priceIn(ship.termsNow[MONTH]));
            return ship.purse;
        }

        private int payOut(Ship ship, int hand, int pence) {
            if (pence < 1 || pence > MOST_DEBT) {
                return BAD_NUMBER;
            }
            if (!ship.hasHand(hand)) {
                return NO_SUCH;
            }
            if (!ship.isAboard(hand) || pence > ship.purse) {
                return CANNOT_BE;
            }
            ship.purse -= pence;
            ship.debts[hand] = Math.min(MOST_DEBT, ship.debts[hand] + pence);
            return ship.debts[hand];
        }

        private int putAshore(Ship ship, int hand) {
            if (!ship.hasHand(hand)) {
                return NO_SUCH;
            }
            if (!ship.isAboard(hand)) {
                return CANNOT_BE;
            }
            ship.aboard &= ~(1 << hand);
            return ship.crewSize();
        }

        /** MONTHS by draws: how many HANDS are GONE in them. */
        int drift(Ship ship, int seed, int months) {
            int drawn = seed;
            int gone = 0;
            for (int i = 0; i < months && ship.grounds > 0; i++) {
                if (ship.aboard == 0 || ship.termsNow[MONTH] >= LAST_MONTH) {
                    break;
                }
                drawn = (drawn * 1103 + 12345) % 1000003;
                int ground = drawn % ship.grounds;
                drawn = (drawn * 1103 + 12345) % 1000003;
                int taken = takenBy(ship, ground, drawn % 10);
                takeWhales(ship, ground, taken);
                gone += runAway(ship);
            }
            return gone;
        }

        private static int takenBy(Ship ship, int ground, int draw) {
            int below = 0;
            for (int taken = MOST_TAKEN; taken > 0; taken--) {
                below += ship.chanceOf(ground, taken);
                if (draw < below) {
                    return Math.min(taken, ship.whales[ground]);
                }
            }
            return 0;
        }
    }

    /** Runs ORDERS. */
    private static final class Boatswain {
        private final Mate mate;
        private final Machine machine = new Machine();
        private final int[] values = new int[VALUES];
        private int stoppedClause = NONE;

        Boatswain(Mate mate) {
            this.mate = mate;
        }

        /** How many were run; CANNOT_BE, if one can't be: the ship is left as it is then. */
        int run(Text text, Ship ship, Log log) {
            values[W_DONE] = 0;
            values[W_GONE] = NONE;
            stoppedClause = NONE;
            for (int clause = 0; clause < text.clauses; clause++) {
                int kind = text.get(clause, Text.KIND);
                int times = text.get(clause, Text.TIMES);
                for (int i = 0; i < times; i++) {
                    look(ship);
                    int test = text.get(clause, Text.TEST);
                    if (test != NONE && machine.value(text.code, test, values) != 1) {
                        continue;
                    }
                    int one = valueOf(text, clause, Text.FIRST);
                    int other = valueOf(text, clause, Text.SECOND);
                    int told = one == BROKEN || other == BROKEN ? CANNOT_BE : mate.act(ship, log, kind, one, other);
                    if (told < 0) {
                        stoppedClause = clause;
                        return CANNOT_BE;
                    }
                    values[W_DONE]++;
                    if (kind == W_HUNT) {
                        values[W_GONE] = told;
                    }
                }
            }
            return values[W_DONE];
        }

        /** A SUM of a CLAUSE; 0 where it has none. */
        private int valueOf(Text text, int clause, int what) {
            int from = text.get(clause, what);
            return from == NONE ? 0 : machine.value(text.code, from, values);
        }

        private void look(Ship ship) {
            values[W_MONTH] = ship.termsNow[MONTH];
            values[W_OIL] = ship.oil;
            values[W_PURSE] = ship.purse;
            for (int hand = 0; hand < MOST_HANDS; hand++) {
                values[V_DEBTS + hand] = hand < ship.hands ? ship.debts[hand] : NONE;
            }
            for (int ground = 0; ground < MOST_GROUNDS; ground++) {
                values[V_WHALES + ground] = ground < ship.grounds ? ship.whales[ground] : NONE;
            }
        }
    }

    /** Works out on paper what can come, and what must have been. */
    private static final class Paper {
        private static final int MOST_ODDS_MONTHS = 24;
        private static final int FAR = 1000;
        private final Judge judge;
        /** By OIL: the most millionths of pence on the average. */
        private final long[] most = new long[MOST_HOLD + 1];
        /** By OIL: behind how many MONTHS there can first be so much. */
        private final int[] reached = new int[MOST_HOLD + 1];
        private final int[] casks = new int[MOST_GROUNDS];
        /** By whales taken, as far as they find room: how many parts. */
        private final long[] chances = new long[MOST_ODDS_MONTHS * MOST_TAKEN + 1];
        private int leastOil;
        private int mostOil;

        Paper(Judge judge) {
            this.judge = judge;
        }

        long bestOf(Ship ship, int n, boolean choice) {
            int months = Math.min(n, LAST_MONTH - ship.termsNow[MONTH]);
            for (int ground = 0; ground < ship.grounds; ground++) {
                casks[ground] = judge.casksOf(ship, ground, ship.crewSize());
            }
            reach(ship);
            for (int month = months; month > 0; month--) {
                fillMonth(ship, month, month == months);
            }
            long much = homeFor(ship, ship.oil, 0);
            int first = HOME;
            for (int ground = 0; months > 0 && ground < ship.grounds; ground++) {
                long average = averageOf(ship, ground, ship.oil);
                if (average > much) {
                    much = average;
                    first = ground;
                }
            }
            return choice ? first : much;
        }

        private void reach(Ship ship) {
            int hold = ship.termsNow[HOLD];
            for (int oil = ship.oil; oil <= hold; oil++) {
                reached[oil] = oil == ship.oil ? 0 : FAR;
            }
            for (int oil = ship.oil; oil < hold; oil++) {
                for (int ground = 0; reached[oil] < FAR && ground < ship.grounds; ground++) {
                    for (int taken = 1; taken <= MOST_TAKEN; taken++) {
                        int then = Math.min(hold, oil + taken * casks[ground]);
                        reached[then] = Math.min(reached[then], reached[oil] + 1);
                    }
                }
            }
        }

        /**
         * From the least OIL upwards: a row may stand in the place of the MONTH's behind it, since
         * no hunt makes OIL less.
         */
        private void fillMonth(Ship ship, int month, boolean last) {
            for (int oil = ship.oil; oil <= ship.termsNow[HOLD]; oil++) {
                if (reached[oil] <= month) {
                    long much = homeFor(ship, oil, month);
                    for (int ground = 0; !last && ground < ship.grounds; ground++) {
                        much = Math.max(much, averageOf(ship, ground, oil));
                    }
                    most[oil] = much;
                }
            }
        }

        private static long homeFor(Ship ship, int oil, int month) {
            return 1000000L * oil * ship.priceIn(ship.termsNow[MONTH] + month);
        }

        private long averageOf(Ship ship, int ground, int oil) {
            long tenfold = 0;
            for (int taken = 0; taken <= MOST_TAKEN; taken++) {
                int then = Math.min(ship.termsNow[HOLD], oil + taken * casks[ground]);
                tenfold += ship.chanceOf(ground, taken) * most[then];
            }
            return tenfold / ALL_ODDS;
        }

        long chanceOfOil(Ship ship, int ground, int months, int oil) {
            int hold = ship.termsNow[HOLD];
            int each = Math.max(1, judge.casksOf(ship, ground, ship.crewSize()));
            int full = Math.min(months * MOST_TAKEN, (hold - ship.oil + each - 1) / each);
            for (int taken = 0; taken <= full; taken++) {
                chances[taken] = 0;
            }
            chances[0] = ALL_PARTS;
            for (int month = 0; month < months; month++) {
                spread(ship, ground, full);
            }
            long together = 0;
            for (int taken = 0; taken <= full; taken++) {
                if (Math.min(hold, ship.oil + taken * each) >= oil) {
                    together += chances[taken];
                }
            }
            return together;
        }

        /** From the most whales downwards, so that no part goes on twice in a MONTH. */
        private void spread(Ship ship, int ground, int full) {
            for (int had = full; had >= 0; had--) {
                long parts = chances[had];
                chances[had] = 0;
                for (int taken = 0; taken <= MOST_TAKEN && parts > 0; taken++) {
                    chances[Math.min(full, had + taken)] += parts * ship.chanceOf(ground, taken) / ALL_ODDS;
                }
            }
        }

        int atRest(Ship ship, boolean tellRounds) {
            int staying = ship.aboard;
            int rounds = 0;
            boolean went = true;
            while (went && rounds <= MOST_HANDS) {
                went = false;
                rounds++;
                for (int hand = 0; hand < ship.hands; hand++) {
                    if ((staying >> hand & 1) == 1
                        && judge.runsOff(ship, hand, ship.lays[hand], Integer.bitCount(staying))) {
                        staying &= ~(1 << hand);
                        went = true;
                    }
                }
            }
            return tellRounds ? rounds : staying;
        }

        int greatestLay(Ship ship, int hand) {
            int crew = ship.crewSize();
            for (int lay = MOST_LAY; lay > 0; lay--) {
                if (!judge.runsOff(ship, hand, lay, crew)) {
                    return lay;
                }
            }
            return NONE;
        }

        long cheapestCrew(Ship ship, int ground, int wanted, boolean tellParts) {
            int sizes = 0;
            for (int size = 1; size <= ship.crewSize(); size++) {
                if (judge.casksOf(ship, ground, size) >= wanted) {
                    sizes |= 1 << size;
                }
            }
            int cheapest = NONE;
            long least = NONE;
            for (int set = 1; set <= ship.aboard; set++) {
                boolean will = (set & ~ship.aboard) == 0 && (sizes >> Integer.bitCount(set) & 1) == 1;
                long together = will ? partsOfSet(ship, set) : 0;
                if (will && (cheapest == NONE || together < least)) {
                    cheapest = set;
                    least = together;
                }
            }
            return tellParts ? least : cheapest;
        }

        private static long partsOfSet(Ship ship, int set) {
            long together = 0;
            for (int hand = 0; hand < ship.hands; hand++) {
                if ((set >> hand & 1) == 1) {
                    together += ship.partsOf(hand);
                }
            }
            return together;
        }

        /**
         * The least and the most OIL by WORDS: all between can be, too, since more OIL never makes
         * a WHOLE less. Without any the least is above the most.
         */
        void weigh(Ship ship) {
            int price = ship.priceIn(ship.termsNow[MONTH]);
            leastOil = 0;
            mostOil = ship.termsNow[HOLD];
            for (int i = 0; i < ship.words; i++) {
                int lay = ship.lays[ship.wordHands[i]];
                int from = ship.wordPence[i] * lay - ship.purse;
                int to = from + lay - 1;
                if (price > 0) {
                    leastOil = Math.max(leastOil, Math.floorDiv(from + price - 1, price));
                    mostOil = Math.min(mostOil, Math.floorDiv(to, price));
                } else if (from > 0 || to < 0) {
                    mostOil = NONE;
                }
            }
        }

        int toAsk(Ship ship, boolean tellMany) {
            weigh(ship);
            if (leastOil > mostOil) {
                return NONE;
            }
            int whom = NONE;
            int many = NONE;
            for (int hand = 0; hand < ship.hands; hand++) {
                int alike = mostAlike(ship, hand);
                if (whom == NONE || alike < many) {
                    whom = hand;
                    many = alike;
                }
            }
            return tellMany ? many : whom;
        }

        /** How many OILS at most give a HAND one and the same WHOLE: they stand side by side. */
        private int mostAlike(Ship ship, int hand) {
            int price = ship.priceIn(ship.termsNow[MONTH]);
            int longest = 0;
            int alike = 0;
            int before = NONE;
            for (int oil = leastOil; oil <= mostOil; oil++) {
                int whole = ship.wholeBy(hand, ship.purse + oil * price);
                alike = whole == before ? alike + 1 : 1;
                before = whole;
                longest = Math.max(longest, alike);
            }
            return longest;
        }
    }
}
