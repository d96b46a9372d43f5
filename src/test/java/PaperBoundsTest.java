/**
 * The boundary cases of MONEY and of what is worked out on paper, promises 22 to 28, 31, 32,
 * sentence by sentence.
 */
public final class PaperBoundsTest {
    private static final int LEAST = Integer.MIN_VALUE;
    private static final int MOST = Integer.MAX_VALUE;
    private static final int NOTHING = WhaleLays.NOTHING;
    private static final long ALL = 1000000000000L;
    private static final long MILLION = 1000000L;
    private static final Due DUE = new Due("PaperBoundsTest");

    public static void main(String[] args) {
        moneyOfNone();
        ownerBelow0();
        mostMoney();
        partsCut();
        bestOfNone();
        bestNoMonth();
        bestAtMonth71();
        bestHomeIfOneOfTheBest();
        bestLowestGround();
        bestPricesOfYears();
        bestBeyondHold();
        bestAsMuchAsItTakes();
        bestLawsAsNow();
        bestCut();
        bestCutByAllOdds();
        bestOfFour();
        bestWaits();
        oddsOfNone();
        oddsNoMonth();
        oddsOrMore();
        oddsBeyondHold();
        oddsAsMuchAsItTakes();
        oddsCut();
        oddsCutAtHold();
        oddsSureAndNever();
        leftOfNone();
        leftRounds();
        leftAtOnce();
        leastOfNone();
        leastBounds();
        crewOfNone();
        crewCasks();
        crewLowest();
        crewOfMany();
        barrelsOfNone();
        barrelsBounds();
        barrelsPurse();
        barrelsPrice();
        askOfNone();
        askLowest();
        askOneOil();
        noneIsRefused();
        DUE.close();
    }

    private static WhaleLays ship(int... lays) {
        WhaleLays x = new WhaleLays();
        for (int lay : lays) {
            x.sign(lay, 0);
        }
        return x;
    }

    // ---- money, parts ----

    private static void moneyOfNone() {
        DUE.says("Promise 22: NOTHING");
        WhaleLays x = ship(1);
        DUE.all("money()", NOTHING, () -> x.money(-1), () -> x.money(2), () -> x.money(LEAST), () -> x.money(MOST));
        DUE.is("money(0)", x.money(0), 0);
        DUE.is("money(1)", x.money(1), 0);
    }

    private static void ownerBelow0() {
        DUE.says("The OWNER has what all WHOLES leave of MONEY (it may be below 0)");
        WhaleLays x = ship(1);
        x.ground(9, 0, 0, 0);
        x.hunt(0, 1);
        DUE.is("a LAY of 1 leaves none", x.money(1), 0);
        x.sign(200, 9999);
        DUE.is("a WHOLE of 1 more", x.money(1), -1);
        x.sign(201, 9999);
        DUE.is("a WHOLE of 0 more", x.money(1), -1);
        for (int i = 0; i < 5; i++) {
            x.sign(1, 0);
        }
        DUE.is("six of 200, one of 1", x.money(1), 200 - 6 * 200 - 1);
        for (int hand = 0; hand < 8; hand++) {
            x.leave(hand);
        }
        DUE.is("all GONE: all is the OWNER's", x.money(1), 200);
    }

    private static void mostMoney() {
        DUE.says("MONEY: PURSE, and OIL by the PRICE of the YEAR, at the most");
        WhaleLays x = ship(1, 1, 1, 1, 1, 1, 1, 1);
        for (int ground = 0; ground < 4; ground++) {
            x.ground(99, 0, 0, 0);
        }
        x.terms(1, 999);
        x.price(0, 99);
        Due.rule(x, "casks 99; eats 0");
        for (int i = 0; i < 11; i++) {
            x.terms(0, 0);
            Due.orders(x, "hunt " + i / 3 + " for 3 times 4; sell 999");
        }
        x.terms(0, 0);
        Due.orders(x, "hunt 3 for 3 times 4");
        DUE.is("PURSE", x.count(14), 999999);
        DUE.is("OIL", x.count(13), 999);
        DUE.is("MONEY", x.money(0), 999999 + 98901);
        DUE.is("the OWNER's", x.money(1), -7 * (999999 + 98901));
        DUE.is("SHARE", x.of(7, 7), 999999 + 98901);
        DUE.is("best(0, 0)", x.best(0, 0), 98901 * MILLION);
        DUE.says("By WORDS with a full PURSE");
        DUE.is("word", x.word(0, 999999), 1);
        DUE.is("no OIL at all", x.barrels(2), 0);
        DUE.is("one OIL", x.barrels(0), 1);
        x.forget();
        x.word(7, 999998);
        DUE.is("less than the PURSE can't be", x.barrels(0), 0);
    }

    private static void partsCut() {
        DUE.says("Promise 23: of 1,000,000,000,000 parts (each cut)");
        DUE.is("nobody", new WhaleLays().parts(), 0);
        DUE.is("LAY 1", ship(1).parts(), ALL);
        DUE.is("LAY 999", ship(999).parts(), 1001001001L);
        // together they would be 999,999,999,999.99.., one more than each cut
        DUE.is("three of LAY 3", ship(3, 3, 3).parts(), 999999999999L);
        DUE.is("seven of LAY 7", ship(7, 7, 7, 7, 7, 7, 7).parts(), 7 * 142857142857L);
        DUE.is("eight of LAY 1", ship(1, 1, 1, 1, 1, 1, 1, 1).parts(), 8 * ALL);
        WhaleLays x = ship(1, 999);
        x.leave(0);
        DUE.is("of all ABOARD", x.parts(), 1001001001L);
        x.leave(1);
        DUE.is("all GONE", x.parts(), 0);
    }

    // ---- best ----

    private static void bestOfNone() {
        DUE.says("Promise 24: THE BEST of n MONTHS 0 .. 12. NONE");
        WhaleLays x = ship(1);
        x.ground(9, 10, 0, 0);
        DUE.all("n", -1, () -> x.best(-1, 0), () -> x.best(13, 0), () -> x.best(-1, 1), () -> x.best(13, 1),
            () -> x.best(LEAST, 0), () -> x.best(MOST, 0));
        DUE.all("what", -1, () -> x.best(0, -1), () -> x.best(0, 2), () -> x.best(12, 100), () -> x.best(1, LEAST),
            () -> x.best(1, MOST));
        // a whale each MONTH, 20 casks of 10 pence, up to a HOLD of 200
        for (int n = 0; n <= 12; n++) {
            DUE.is("best(" + n + ", 0)", x.best(n, 0), Math.min(10, n) * 200 * MILLION);
            DUE.is("best(" + n + ", 1)", x.best(n, 1), n == 0 ? 100 : 0);
        }
    }

    private static void bestNoMonth() {
        DUE.says("it must go home, when no MONTH is left");
        WhaleLays x = ship(1);
        x.ground(9, 0, 0, 10);
        x.hunt(0, 1);
        DUE.is("best(0, 0)", x.best(0, 0), 200 * MILLION);
        DUE.is("best(0, 1)", x.best(0, 1), 100);
        WhaleLays y = new WhaleLays();
        DUE.is("without GROUNDS it must, too", y.best(12, 0), 0);
        DUE.is("home", y.best(12, 1), 100);
    }

    private static void bestAtMonth71() {
        DUE.says("it must go home at MONTH 71");
        WhaleLays x = ship(1);
        x.ground(99, 10, 0, 0);
        for (int month = 57; month <= 71; month++) {
            x.terms(0, month);
            int left = Math.min(12, 71 - month);
            DUE.is("best(12, 0) at MONTH " + month, x.best(12, 0), Math.min(10, left) * 200 * MILLION);
            DUE.is("best(12, 1) at MONTH " + month, x.best(12, 1), left == 0 ? 100 : 0);
            DUE.is("best(1, 0) at MONTH " + month, x.best(1, 0), Math.min(1, left) * 200 * MILLION);
        }
    }

    private static void bestHomeIfOneOfTheBest() {
        DUE.says("the first choice (home, if that is one of the best, else the lowest GROUND)");
        WhaleLays x = ship(1);
        x.ground(9, 0, 0, 0);
        DUE.is("without OIL and ODDS", x.best(12, 1), 100);
        x.ground(9, 1, 0, 0);
        DUE.is("one that has some", x.best(12, 1), 1);
        x.terms(1, 20);
        x.hunt(0, 1);
        DUE.is("a full HOLD", x.best(12, 1), 100);
        x.price(1, 11);
        DUE.is("the next YEAR pays more", x.best(12, 1), 0);
        DUE.is("but is too far", x.best(10, 1), 100);
        x.price(1, 10);
        DUE.is("it pays as much", x.best(12, 1), 100);
        x.price(1, 9);
        DUE.is("it pays less", x.best(12, 1), 100);
        x.price(0, 0);
        x.price(1, 0);
        DUE.is("all is for nothing", x.best(12, 1), 100);
        DUE.is("so much", x.best(12, 0), 0);
    }

    private static void bestLowestGround() {
        DUE.says("else the lowest GROUND");
        WhaleLays x = ship(1);
        x.ground(9, 0, 0, 0);
        x.ground(9, 1, 1, 0);
        x.ground(9, 3, 0, 0);
        x.ground(9, 0, 0, 1);
        DUE.is("1, 2, 3 are worth the same", x.best(1, 0), 60 * MILLION);
        DUE.is("the lowest of them", x.best(1, 1), 1);
        WhaleLays y = ship(1);
        y.ground(9, 0, 0, 0);
        y.ground(9, 2, 0, 0);
        y.ground(9, 2, 0, 0);
        y.ground(9, 3, 0, 0);
        DUE.is("the last is the best", y.best(1, 1), 3);
        DUE.is("so much", y.best(1, 0), 60 * MILLION);
    }

    private static void bestPricesOfYears() {
        DUE.says("OIL by the PRICE of that YEAR");
        for (int year = 0; year < 5; year++) {
            WhaleLays x = ship(1);
            x.ground(9, 0, 0, 0);
            x.hunt(0, 1);
            x.price(year, 10);
            x.price(year + 1, 50);
            x.terms(0, 12 * year + 9);
            DUE.is("the last MONTH of YEAR " + year, x.best(2, 0), 200 * MILLION);
            DUE.is("the first of the next", x.best(3, 0), 1000 * MILLION);
            DUE.is("home", x.best(2, 1), 100);
            DUE.is("on", x.best(3, 1), 0);
        }
        WhaleLays x = ship(1);
        x.ground(9, 10, 0, 0);
        x.price(5, 99);
        x.terms(0, 59);
        x.hunt(0, 1);
        DUE.is("MONTH 60 is of YEAR 5", x.best(0, 0), 20 * 99 * MILLION);
        x.terms(0, 71);
        DUE.is("and so is MONTH 71", x.best(12, 0), 20 * 99 * MILLION);
    }

    private static void bestBeyondHold() {
        DUE.says("CASKS beyond HOLD are lost");
        WhaleLays x = ship(1);
        x.ground(9, 0, 0, 10);
        int[] holds = {1, 59, 60, 61, 119, 120, 121, 999};
        for (int hold : holds) {
            x.terms(1, hold);
            DUE.is("one MONTH, HOLD " + hold, x.best(1, 0), Math.min(60, hold) * 10 * MILLION);
            DUE.is("two MONTHS, HOLD " + hold, x.best(2, 0), Math.min(120, hold) * 10 * MILLION);
        }
        x.terms(1, 999);
        Due.rule(x, "casks 99");
        DUE.is("twelve MONTHS, HOLD 999", x.best(12, 0), 9990 * MILLION);
        DUE.is("three MONTHS", x.best(3, 0), 8910 * MILLION);
        DUE.is("four MONTHS", x.best(4, 0), 9990 * MILLION);
    }

    private static void bestAsMuchAsItTakes() {
        DUE.says("by ODDS (as much as it takes)");
        WhaleLays x = ship(1);
        x.ground(0, 0, 0, 10);
        DUE.is("WHALES are no bound on paper", x.best(2, 0), 1200 * MILLION);
        DUE.is("the GROUND", x.best(2, 1), 0);
        WhaleLays y = new WhaleLays();
        y.ground(9, 10, 0, 0);
        DUE.is("nobody need be ABOARD on paper", y.best(1, 0), 200 * MILLION);
    }

    private static void bestLawsAsNow() {
        DUE.says("WHALES, OIL, MONTH in laws as now");
        WhaleLays x = ship(1);
        x.ground(9, 10, 0, 0);
        Due.rule(x, "casks 10 + whales * 5 - 45 + oil * 7 + month * 9");
        DUE.is("ten casks each MONTH", x.best(12, 0), 120 * 10 * MILLION);
        x.hunt(0, 1);
        // whales 8, oil 10, month 1: 10 - 5 + 70 + 9 = 84 casks
        DUE.is("one MONTH", x.best(1, 0), 94 * 10 * MILLION);
        DUE.is("two MONTHS", x.best(2, 0), 178 * 10 * MILLION);
        DUE.is("the HOLD", x.best(3, 0), 200 * 10 * MILLION);
    }

    private static void bestCut() {
        DUE.says("the most pence on the average, in millionths, each average cut");
        WhaleLays x = ship(1);
        x.ground(9, 3, 0, 0);
        x.terms(1, 1);
        for (int year = 0; year < 6; year++) {
            x.price(year, 1);
        }
        long due = 0;
        for (int n = 1; n <= 12; n++) {
            due = (3 * MILLION + 7 * due) / 10;
            DUE.is("best(" + n + ", 0)", x.best(n, 0), due);
        }
        DUE.is("cut once alone it were 986,158", due, 986157L);
    }

    /** By all ODDS of one whale: whatever is left over when a sum is cut. */
    private static void bestCutByAllOdds() {
        DUE.says("each average cut");
        for (int one = 0; one <= 10; one++) {
            for (int two = 0; one + two <= 10; two++) {
                WhaleLays x = ship(1);
                x.ground(9, one, two, 0);
                x.price(0, 7);
                Due.rule(x, "casks 1");
                x.terms(1, 3);
                long[] most = {0, 7 * MILLION, 14 * MILLION, 21 * MILLION};
                for (int n = 1; n <= 9; n++) {
                    for (int oil = 0; oil <= 3; oil++) {
                        long tenfold = (10 - one - two) * most[oil] + one * most[Math.min(3, oil + 1)] + two * most[Math.min(3, oil + 2)];
                        most[oil] = Math.max(7 * MILLION * oil, tenfold / 10);
                    }
                    DUE.is("ODDS " + one + " " + two + ": best(" + n + ", 0)", x.best(n, 0), most[0]);
                }
            }
        }
    }

    private static void bestOfFour() {
        DUE.says("or HUNTS in a GROUND: GROUNDS 0 .. 3");
        WhaleLays x = ship(1);
        for (int ground = 0; ground < 4; ground++) {
            x.ground(9, ground * 2 + 1, 0, 0);
        }
        DUE.is("the last of four", x.best(12, 1), 3);
        DUE.is("two MONTHS", x.best(2, 0), 280 * MILLION);
    }

    /** Ahead of each MONTH it may go home, with what it has then. */
    private static void bestWaits() {
        DUE.says("ahead of each MONTH it goes home, or HUNTS");
        WhaleLays x = ship(1);
        x.ground(9, 5, 0, 0);
        x.price(1, 0);
        x.terms(0, 11);
        DUE.is("the next YEAR pays nothing", x.best(12, 0), 0);
        DUE.is("home", x.best(12, 1), 100);
        x.terms(0, 10);
        DUE.is("one MONTH is left of this YEAR", x.best(12, 0), 100 * MILLION);
        DUE.is("the GROUND", x.best(12, 1), 0);
        x.terms(0, 9);
        DUE.is("two MONTHS are left", x.best(12, 0), 200 * MILLION);
    }

    // ---- odds ----

    private static void oddsOfNone() {
        DUE.says("Promise 25: ODDS of OIL 0 .. 999 behind n MONTHS 0 .. 24 in a GROUND. NONE");
        WhaleLays x = ship(1);
        DUE.is("without GROUNDS", x.odds(0, 1, 1), -1);
        x.ground(9, 10, 0, 0);
        x.ground(9, 10, 0, 0);
        DUE.all("GROUND", -1, () -> x.odds(-1, 1, 1), () -> x.odds(2, 1, 1), () -> x.odds(4, 1, 1), () -> x.odds(LEAST, 1, 1),
            () -> x.odds(MOST, 1, 1));
        DUE.all("n", -1, () -> x.odds(0, -1, 1), () -> x.odds(0, 25, 1), () -> x.odds(0, LEAST, 1), () -> x.odds(0, MOST, 1));
        DUE.all("OIL", -1, () -> x.odds(0, 1, -1), () -> x.odds(0, 1, 1000), () -> x.odds(0, 1, LEAST), () -> x.odds(0, 1, MOST));
        DUE.is("n 0, OIL 0", x.odds(1, 0, 0), ALL);
        DUE.is("n 24, OIL 0", x.odds(1, 24, 0), ALL);
        DUE.is("n 24, OIL 999", x.odds(1, 24, 999), 0);
        x.terms(1, 999);
        DUE.is("24 whales of 20", x.odds(1, 24, 480), ALL);
        DUE.is("and not one cask more", x.odds(1, 24, 481), 0);
        Due.rule(x, "casks 99");
        DUE.is("n 24, OIL 999, a HOLD of 999", x.odds(1, 24, 999), ALL);
        DUE.is("ten whales are too few", x.odds(1, 10, 999), 0);
        DUE.is("eleven are enough", x.odds(1, 11, 999), ALL);
    }

    private static void oddsNoMonth() {
        DUE.says("behind n MONTHS: none");
        WhaleLays x = ship(1);
        x.ground(9, 3, 3, 3);
        DUE.is("OIL 0 is there", x.odds(0, 0, 0), ALL);
        DUE.is("OIL 1 is not", x.odds(0, 0, 1), 0);
        x.hunt(0, 1);
        DUE.is("OIL 20 is there", x.odds(0, 0, 20), ALL);
        DUE.is("OIL 21 is not", x.odds(0, 0, 21), 0);
        DUE.is("OIL 19 is", x.odds(0, 0, 19), ALL);
    }

    private static void oddsOrMore() {
        DUE.says("that OIL is so much or more");
        WhaleLays x = ship(1);
        x.ground(9, 4, 3, 2);
        long[] due = {ALL, 900000000000L, 500000000000L, 200000000000L, 0};
        for (int taken = 0; taken <= 3; taken++) {
            DUE.is("just " + taken + " whales", x.odds(0, 1, 20 * taken), due[taken]);
            DUE.is("one cask more", x.odds(0, 1, 20 * taken + 1), due[taken + 1]);
            DUE.is("one cask less", x.odds(0, 1, Math.max(0, 20 * taken - 1)), due[taken]);
        }
    }

    private static void oddsBeyondHold() {
        DUE.says("ODDS of OIL (as above): CASKS beyond HOLD are lost");
        WhaleLays x = ship(1);
        x.ground(9, 0, 0, 5);
        int[] holds = {1, 59, 60, 61, 119, 120, 121};
        for (int hold : holds) {
            x.terms(1, hold);
            int one = Math.min(60, hold);
            int two = Math.min(120, hold);
            DUE.is("one MONTH, HOLD " + hold, x.odds(0, 1, one), ALL / 2);
            DUE.is("and more", x.odds(0, 1, one + 1), 0);
            DUE.is("two MONTHS, HOLD " + hold, x.odds(0, 2, two), two == one ? ALL / 4 * 3 : ALL / 4);
            DUE.is("and more", x.odds(0, 2, two + 1), 0);
            DUE.is("24 MONTHS", x.odds(0, 24, hold + 1), 0);
        }
        x.terms(1, 20);
        x.hunt(0, 1);
        DUE.is("a full HOLD stays full", x.odds(0, 2, 20), ALL);
        DUE.is("and takes no more", x.odds(0, 2, 21), 0);
    }

    private static void oddsAsMuchAsItTakes() {
        DUE.says("ODDS of OIL (as above): as much as it takes; WHALES, OIL, MONTH in laws as now");
        WhaleLays x = ship(1);
        x.ground(0, 10, 0, 0);
        DUE.is("WHALES are no bound on paper", x.odds(0, 3, 60), ALL);
        x.terms(0, 71);
        DUE.is("nor is MONTH 71", x.odds(0, 3, 60), ALL);
        x.terms(0, 0);
        x.ground(9, 10, 0, 0);
        Due.rule(x, "casks 10 + whales * 5 - 45 + oil * 7 + month * 9");
        x.hunt(1, 1);
        DUE.is("84 casks each MONTH", x.odds(1, 2, 178), ALL);
        DUE.is("not one more", x.odds(1, 2, 179), 0);
    }

    /** By whales 1, 2, 3 in 1 of ten each, none in 7: each part cut as it comes. */
    private static void oddsCut() {
        DUE.says("of 1,000,000,000,000 parts; each part is cut");
        WhaleLays x = ship(1);
        x.ground(9, 1, 1, 1);
        x.terms(1, 999);
        Due.rule(x, "casks 1");
        long[] chances = new long[73];
        chances[0] = ALL;
        for (int n = 1; n <= 24; n++) {
            long[] next = new long[73];
            for (int had = 0; had < 70; had++) {
                next[had] += chances[had] * 7 / 10;
                for (int taken = 1; taken <= 3; taken++) {
                    next[had + taken] += chances[had] / 10;
                }
            }
            chances = next;
            long some = 0;
            for (int had = 72; had >= 0; had--) {
                some += chances[had];
                if (had % 9 == 0 || had < 4) {
                    DUE.is("odds(0, " + n + ", " + had + ")", x.odds(0, n, had), some);
                }
            }
        }
        DUE.that("some was lost by the cuts", x.odds(0, 24, 0) < ALL);
        DUE.is("72 whales: one part of ten, 24 times, cut to none", x.odds(0, 24, 72), 0);
        DUE.is("12 MONTHS of three: one part", x.odds(0, 12, 36), 1);
        DUE.is("13 MONTHS of three: none", x.odds(0, 13, 39), 0);
    }

    /** Each part that goes beyond HOLD comes to what is there by itself. */
    private static void oddsCutAtHold() {
        DUE.says("each part is cut; CASKS beyond HOLD are lost");
        int[] holds = {1, 2, 5, 6, 7, 20};
        for (int hold : holds) {
            for (int had = 0; had <= 2; had += 2) {
                WhaleLays x = ship(1);
                x.ground(9, 1, 2, 1);
                Due.rule(x, "casks 2");
                x.terms(1, hold);
                x.hunt(0, had / 2);
                long[] chances = new long[hold + 1];
                chances[Math.min(hold, had)] = ALL;
                for (int n = 1; n <= 24; n++) {
                    long[] next = new long[hold + 1];
                    int[] odds = {6, 1, 2, 1};
                    for (int oil = 0; oil <= hold; oil++) {
                        for (int taken = 0; taken <= 3; taken++) {
                            next[Math.min(hold, oil + 2 * taken)] += chances[oil] * odds[taken] / 10;
                        }
                    }
                    chances = next;
                    DUE.is("HOLD " + hold + ", OIL " + had + ", n " + n, x.odds(0, n, hold), chances[hold]);
                }
            }
        }
    }

    private static void oddsSureAndNever() {
        DUE.says("ODDS 0 .. 10 (in ten, 10 together at most)");
        WhaleLays x = ship(1);
        x.terms(1, 999);
        x.ground(9, 0, 0, 10);
        x.ground(9, 0, 0, 0);
        x.ground(9, 3, 3, 4);
        DUE.is("three for sure", x.odds(0, 16, 960), ALL);
        DUE.is("never", x.odds(1, 24, 1), 0);
        DUE.is("never less than now", x.odds(1, 24, 0), ALL);
        DUE.is("one at least for sure", x.odds(2, 1, 20), ALL);
        DUE.is("in two MONTHS two", x.odds(2, 2, 40), ALL);
    }

    // ---- left, least, crew ----

    private static void leftOfNone() {
        DUE.says("Promise 26: LEFT at REST. NONE");
        WhaleLays x = ship(1, 2);
        DUE.all("what", -1, () -> x.left(-1), () -> x.left(2), () -> x.left(LEAST), () -> x.left(MOST));
        DUE.is("without a LAW all", x.left(0), 3);
        DUE.is("one round in which nobody goes", x.left(1), 1);
        WhaleLays none = new WhaleLays();
        DUE.is("nobody", none.left(0), 0);
        DUE.is("one round", none.left(1), 1);
        Due.rule(x, "deserts");
        DUE.is("all go", x.left(0), 0);
        DUE.is("in one round, and one more", x.left(1), 2);
        x.leave(0);
        x.leave(1);
        DUE.is("all GONE", x.left(0), 0);
        DUE.is("one round in which nobody goes", x.left(1), 1);
    }

    private static void leftRounds() {
        DUE.says("in how many rounds, the last one in which nobody goes, too; till nobody goes in a round");
        for (int hands = 0; hands <= 8; hands++) {
            WhaleLays x = new WhaleLays();
            for (int hand = 0; hand < hands; hand++) {
                x.sign(1 + hand, 0);
            }
            // the last one goes, round by round: 0 is asked ahead of those behind it
            Due.rule(x, "deserts if hand + 1 = crew");
            DUE.is(hands + " HANDS: nobody is left", x.left(0), 0);
            DUE.is(hands + " HANDS: rounds", x.left(1), hands + 1);
            DUE.is("on paper alone", x.count(1), hands);
        }
    }

    private static void leftAtOnce() {
        DUE.says("HANDS ABOARD by numbers: one that DESERTS (crew: how many are left then, itself too) is off at once");
        WhaleLays x = ship(1, 1, 1, 1, 1, 1, 1, 1);
        Due.rule(x, "deserts if crew = 8 - hand");
        DUE.is("each in its turn", x.left(0), 0);
        DUE.is("in one round, and one more", x.left(1), 2);
        Due.rule(x, "deserts if crew > 1");
        DUE.is("the last one stays", x.left(0), 128);
        Due.rule(x, "deserts if crew = 8");
        DUE.is("the first one goes", x.left(0), 254);
        x.leave(7);
        Due.rule(x, "deserts if crew = 7");
        DUE.is("who is GONE does not count", x.left(0), 126);
        Due.rule(x, "deserts if hand = 7");
        DUE.is("who is GONE is not asked", x.left(1), 1);
    }

    private static void leastOfNone() {
        DUE.says("Promise 27: NONE (by none; GONE)");
        WhaleLays x = ship(5, 6);
        DUE.all("no such HAND", -1, () -> x.least(-1), () -> x.least(2), () -> x.least(8), () -> x.least(32), () -> x.least(LEAST),
            () -> x.least(MOST));
        x.leave(1);
        DUE.is("GONE", x.least(1), -1);
        DUE.is("ABOARD", x.least(0), 999);
        Due.rule(x, "deserts");
        DUE.is("by none", x.least(0), -1);
    }

    private static void leastBounds() {
        DUE.says("The greatest LAY 1 .. 999 by which a HAND ABOARD does not DESERT (all else as now)");
        WhaleLays x = ship(5, 6);
        int[] bounds = {1, 2, 998, 999};
        for (int bound : bounds) {
            x.image(0);
            Due.rule(x, "deserts if lay > " + bound);
            DUE.is("deserts if lay > " + bound, x.least(0), bound);
            x.back(0);
        }
        Due.rule(x, "deserts if lay > 0");
        DUE.is("by none", x.least(0), -1);
        Due.rule(x, "deserts if not lay = 1");
        DUE.is("by 1 alone", x.least(0), 1);
        Due.rule(x, "deserts if lay < 999");
        DUE.is("by 999 alone", x.least(0), 999);
        Due.rule(x, "deserts if 100/[lay - 999] < 0");
        DUE.is("BROKEN at 999: it stays", x.least(0), 999);
        Due.rule(x, "deserts if lay > 400 + crew * 100 + hand");
        DUE.is("crew as now", x.least(1), 601);
        DUE.is("LAY stays", x.of(0, 0), 5);
    }

    private static void crewOfNone() {
        DUE.says("Promise 28: so many CASKS 1 .. 99 a whale. NONE (none)");
        WhaleLays x = ship(5, 6);
        DUE.is("without GROUNDS", x.crew(0, 1, 0), -1);
        x.ground(9, 0, 0, 0);
        DUE.all("GROUND", -1, () -> x.crew(-1, 1, 0), () -> x.crew(1, 1, 0), () -> x.crew(4, 1, 0), () -> x.crew(LEAST, 1, 0),
            () -> x.crew(MOST, 1, 0));
        DUE.all("CASKS", -1, () -> x.crew(0, 0, 0), () -> x.crew(0, -1, 0), () -> x.crew(0, 100, 0), () -> x.crew(0, LEAST, 0),
            () -> x.crew(0, MOST, 0));
        DUE.all("what", -1, () -> x.crew(0, 1, -1), () -> x.crew(0, 1, 2), () -> x.crew(0, 1, LEAST), () -> x.crew(0, 1, MOST));
        x.leave(0);
        DUE.is("one is ABOARD", x.crew(0, 1, 0), 2);
        x.leave(1);
        DUE.is("of one HAND ABOARD or more: who", x.crew(0, 1, 0), -1);
        DUE.is("of one HAND ABOARD or more: LAYS", x.crew(0, 1, 1), -1);
    }

    private static void crewCasks() {
        DUE.says("with which a whale gives so many CASKS or more");
        WhaleLays x = ship(5, 6);
        x.ground(9, 0, 0, 0);
        DUE.is("20 of 20", x.crew(0, 20, 0), 2);
        DUE.is("21 of 20", x.crew(0, 21, 0), -1);
        DUE.is("1 of 20", x.crew(0, 1, 0), 2);
        Due.rule(x, "casks 99");
        DUE.is("99 of 99", x.crew(0, 99, 1), ALL / 6);
        Due.rule(x, "casks 98");
        DUE.is("99 of 98", x.crew(0, 99, 1), -1);
        Due.rule(x, "casks 0");
        DUE.is("1 of 1", x.crew(0, 1, 0), 2);
        DUE.is("2 of 1", x.crew(0, 2, 0), -1);
        Due.rule(x, "casks 40 if crew = 2");
        DUE.is("by two alone", x.crew(0, 21, 0), 3);
        DUE.is("their LAYS", x.crew(0, 21, 1), ALL / 5 + ALL / 6);
    }

    private static void crewLowest() {
        DUE.says("that whose LAYS are least together; the lowest as bits");
        WhaleLays x = ship(7, 7, 7);
        x.ground(9, 0, 0, 0);
        DUE.is("the lowest of three", x.crew(0, 20, 0), 1);
        Due.rule(x, "casks crew * 20");
        DUE.is("the lowest two", x.crew(0, 40, 0), 3);
        x.leave(0);
        DUE.is("of those ABOARD", x.crew(0, 40, 0), 6);
        WhaleLays y = ship(998, 999, 999, 998);
        y.ground(9, 0, 0, 0);
        DUE.is("the greatest LAY", y.crew(0, 20, 0), 2);
        DUE.is("so much", y.crew(0, 20, 1), 1001001001L);
        Due.rule(y, "casks crew * 20");
        DUE.is("both", y.crew(0, 40, 0), 6);
        DUE.is("and the lowest of the others", y.crew(0, 60, 0), 7);
    }

    private static void crewOfMany() {
        DUE.says("of sets of one HAND ABOARD or more");
        WhaleLays x = ship(1, 1, 1, 1, 1, 1, 1, 1);
        x.ground(9, 0, 0, 0);
        Due.rule(x, "casks crew * 10");
        for (int size = 1; size <= 8; size++) {
            DUE.is("a crew of " + size, x.crew(0, size * 10, 0), (1 << size) - 1);
            DUE.is("its LAYS", x.crew(0, size * 10, 1), size * ALL);
        }
        DUE.is("nine", x.crew(0, 81, 0), -1);
        Due.rule(x, "casks 90 - crew * 10");
        DUE.is("fewer give more", x.crew(0, 80, 0), 1);
        DUE.is("none so much", x.crew(0, 81, 0), -1);
    }

    // ---- barrels, ask ----

    private static void barrelsOfNone() {
        DUE.says("Promise 31: NONE (none, for 1, 2)");
        WhaleLays x = ship(10);
        DUE.all("what", -1, () -> x.barrels(-1), () -> x.barrels(3), () -> x.barrels(LEAST), () -> x.barrels(MOST));
        x.word(0, 999999);
        DUE.is("none: how many", x.barrels(0), 0);
        DUE.is("none: the least", x.barrels(1), -1);
        DUE.is("none: the greatest", x.barrels(2), -1);
    }

    private static void barrelsBounds() {
        DUE.says("how much OIL 0 .. HOLD there can be");
        WhaleLays x = new WhaleLays();
        int[] holds = {1, 200, 999};
        for (int hold : holds) {
            x.terms(1, hold);
            DUE.is("without WORDS", x.barrels(0), hold + 1);
            DUE.is("the least", x.barrels(1), 0);
            DUE.is("the greatest", x.barrels(2), hold);
        }
        WhaleLays y = ship(100);
        y.word(0, 20);
        DUE.is("2,000 pence: OIL 200, the HOLD", y.barrels(0), 1);
        DUE.is("the least", y.barrels(1), 200);
        DUE.is("the greatest", y.barrels(2), 200);
        y.terms(1, 199);
        DUE.is("a HOLD of 199", y.barrels(0), 0);
        y.terms(1, 208);
        DUE.is("a HOLD of 208", y.barrels(0), 9);
        y.terms(1, 210);
        DUE.is("a HOLD of 210: up to 209", y.barrels(0), 10);
        DUE.is("the greatest", y.barrels(2), 209);
        y.forget();
        y.word(0, 0);
        DUE.is("no pence: OIL 0 .. 9", y.barrels(0), 10);
        DUE.is("the least", y.barrels(1), 0);
        DUE.is("the greatest", y.barrels(2), 9);
        y.word(0, 0);
        DUE.is("told twice", y.barrels(0), 10);
        y.word(0, 1);
        DUE.is("told otherwise", y.barrels(0), 0);
    }

    private static void barrelsPurse() {
        DUE.says("(PURSE, PRICE as now)");
        WhaleLays x = ship(100);
        x.ground(9, 0, 0, 0);
        x.hunt(0, 2);
        x.sell(25);
        x.word(0, 2);
        DUE.is("200 .. 299 pence with 250 in the PURSE", x.barrels(0), 5);
        DUE.is("the least", x.barrels(1), 0);
        DUE.is("the greatest", x.barrels(2), 4);
        x.advance(0, 50);
        DUE.is("with 200 in the PURSE", x.barrels(0), 10);
        x.advance(0, 1);
        DUE.is("with 199 in the PURSE", x.barrels(0), 10);
        DUE.is("the least", x.barrels(1), 1);
        DUE.is("the greatest", x.barrels(2), 10);
        x.leave(0);
        DUE.is("(ABOARD or GONE alike)", x.barrels(0), 10);
    }

    private static void barrelsPrice() {
        DUE.says("(PURSE, PRICE as now): PRICES 0 .. 99");
        WhaleLays x = ship(100);
        x.price(0, 0);
        x.word(0, 0);
        DUE.is("for nothing: all", x.barrels(0), 201);
        x.forget();
        x.word(0, 1);
        DUE.is("for nothing: none", x.barrels(0), 0);
        WhaleLays paid = ship(1, 200, 201);
        paid.ground(9, 0, 0, 0);
        paid.hunt(0, 1);
        paid.sell(20);
        paid.price(0, 0);
        int[][] told = {{0, 199, 0}, {0, 200, 201}, {0, 201, 0}, {1, 0, 0}, {1, 1, 201}, {1, 2, 0}, {2, 0, 201}, {2, 1, 0}};
        for (int[] t : told) {
            paid.word(t[0], t[1]);
            DUE.is("for nothing, 200 in the PURSE, HAND " + t[0] + " told " + t[1], paid.barrels(0), t[2]);
            paid.forget();
        }
        x.price(0, 99);
        // 100 .. 199 pence: OIL 2 gives 198
        DUE.is("for 99: one", x.barrels(0), 1);
        DUE.is("the least", x.barrels(1), 2);
        x.price(0, 1);
        DUE.is("for 1", x.barrels(0), 100);
        DUE.is("the least", x.barrels(1), 100);
        DUE.is("the greatest", x.barrels(2), 199);
        x.price(0, 10);
        x.price(1, 50);
        x.terms(0, 11);
        DUE.is("the last MONTH of a YEAR", x.barrels(1), 10);
        x.terms(0, 12);
        DUE.is("the first of the next", x.barrels(1), 2);
        WhaleLays y = ship(1);
        y.price(0, 99);
        y.word(0, 98);
        DUE.is("no OIL gives just so much", y.barrels(0), 0);
        y.forget();
        y.word(0, 99);
        DUE.is("one gives it", y.barrels(1), 1);
        DUE.is("one alone", y.barrels(0), 1);
        WhaleLays z = ship(999);
        z.terms(1, 999);
        z.price(0, 99);
        z.word(0, 99);
        DUE.is("all of the HOLD for 99 each, by 999", z.barrels(0), 1);
        DUE.is("OIL", z.barrels(1), 999);
        z.forget();
        z.word(0, 999999);
        DUE.is("too much by far", z.barrels(0), 0);
    }

    private static void askOfNone() {
        DUE.says("Promise 32: NONE (no HANDS, no OILS)");
        WhaleLays x = new WhaleLays();
        DUE.is("no HANDS: who", x.ask(0), -1);
        DUE.is("no HANDS: how many", x.ask(1), -1);
        x.sign(10, 0);
        DUE.all("what", -1, () -> x.ask(-1), () -> x.ask(2), () -> x.ask(LEAST), () -> x.ask(MOST));
        x.word(0, 999999);
        DUE.is("no OILS: who", x.ask(0), -1);
        DUE.is("no OILS: how many", x.ask(1), -1);
        x.forget();
        x.leave(0);
        DUE.is("all GONE: who", x.ask(0), 0);
        DUE.is("all GONE: how many", x.ask(1), 1);
    }

    private static void askLowest() {
        DUE.says("the HAND by whose WHOLE the most of these have one and the same is least, the lowest");
        WhaleLays x = ship(999, 999, 999);
        DUE.is("all alike: the lowest", x.ask(0), 0);
        DUE.is("100 of 201 OILS", x.ask(1), 100);
        x.sign(20, 0);
        x.sign(20, 0);
        DUE.is("the lowest of the best", x.ask(0), 3);
        DUE.is("two OILS", x.ask(1), 2);
        for (int i = 0; i < 2; i++) {
            x.sign(21, 0);
        }
        x.sign(10, 0);
        DUE.is("the eighth", x.ask(0), 7);
        DUE.is("one OIL", x.ask(1), 1);
        x.leave(7);
        DUE.is("GONE, too", x.ask(0), 7);
        x.price(0, 0);
        DUE.is("for nothing: the lowest", x.ask(0), 0);
        DUE.is("all OILS", x.ask(1), 201);
    }

    private static void askOneOil() {
        DUE.says("how many OILS are left at most");
        WhaleLays x = ship(999, 10);
        x.word(1, 7);
        DUE.is("one OIL alone: the lowest", x.ask(0), 0);
        DUE.is("one", x.ask(1), 1);
        x.forget();
        x.terms(1, 1);
        DUE.is("OIL 0, 1: the second tells them apart", x.ask(0), 1);
        DUE.is("one", x.ask(1), 1);
        WhaleLays y = ship(15);
        // WHOLE by OIL 0, 1 | 2 | 3, 4: the first, the last group or one between may be the greatest
        y.terms(1, 4);
        DUE.is("two, two", y.ask(1), 2);
        y.terms(1, 2);
        DUE.is("two, one", y.ask(1), 2);
        y.terms(1, 1);
        DUE.is("two", y.ask(1), 2);
        y.ground(9, 0, 0, 0);
        y.hunt(0, 1);
        y.sell(1);
        // 10 pence in the PURSE: OIL 0 | 1 | 2, 3
        DUE.is("one, one", y.ask(1), 1);
        y.terms(1, 3);
        DUE.is("one, one, two", y.ask(1), 2);
    }

    private static void noneIsRefused() {
        DUE.says("Promise 38: status() is of those calls alone");
        WhaleLays x = ship(1);
        x.price(9, 9);
        int refused = x.count(7);
        x.money(9);
        x.best(-1, 0);
        x.odds(0, 0, 0);
        x.left(9);
        x.least(9);
        x.crew(0, 0, 0);
        x.barrels(9);
        x.ask(9);
        x.parts();
        x.best(0, 0);
        x.left(0);
        x.least(0);
        DUE.is("status()", x.status(), -1);
        DUE.is("count(7)", x.count(7), refused);
        DUE.is("the others", x.count(8) + x.count(9) + x.count(10) + x.count(11), 0);
    }
}
