/** The edges that 'Terms' names for a night, and those of promise 10: what is quoted stands in the document. */
final class NightEdgesTest {

    private NightEdgesTest() {
    }

    /** Ships of three masts; the sailors of each stand on the masts that its text names; all have voters. */
    private static SailorCandles ships(String... sailorsOnMasts) {
        SailorCandles x = new SailorCandles();
        for (int ship = 0; ship < sailorsOnMasts.length; ship++) {
            x.addShip(3);
            for (char mast : sailorsOnMasts[ship].toCharArray()) {
                x.addSailor(ship, mast - '0', true);
            }
        }
        return x;
    }

    private static void watchers(SailorCandles x, int count) {
        for (int watcher = 0; watcher < count; watcher++) {
            x.addWatcher();
        }
    }

    private static void sailAll(SailorCandles x) {
        int ships = x.ships();
        for (int ship = 0; ship < ships; ship++) {
            x.sail(ship);
        }
    }

    private static void giveUp(SailorCandles x, int... sailors) {
        for (int sailor : sailors) {
            x.vote(sailor, true);
        }
    }

    private static void candlesAre(SailorCandles x, int... heights) {
        for (int sailor = 0; sailor < heights.length; sailor++) {
            Check.equal("candleOf(" + sailor + ")", heights[sailor], x.candleOf(sailor));
        }
    }

    /** Homecomings of a ship that nobody is on bring a watcher's trust to where it is wanted. */
    private static void raiseTrust(SailorCandles x, int watcher, int emptyShip, int times) {
        for (int i = 0; i < times; i++) {
            x.sail(emptyShip);
            x.sight(watcher, emptyShip);
            x.comeHome(emptyShip);
        }
    }

    // ---- "1. Each sighting gets a night older."

    /** "For each one that is 3 nights old then": each is as old as its own nights. */
    static void promise10EachSightingHasItsOwnAge() {
        SailorCandles x = ships("", "", "");
        watchers(x, 1);
        sailAll(x);
        int[] sightings = {1, 2, 2, 1, 0};
        int[] trusts = {5, 5, 3, 1, 0};
        x.sight(0, 0);
        for (int night = 1; night <= 5; night++) {
            x.burnNights(1);
            Check.equal("sightings behind " + night, sightings[night - 1], x.sightings());
            Check.equal("trust behind " + night, trusts[night - 1], x.trustOf(0));
            if (night < 3) {
                x.sight(0, night);
            }
        }
    }

    /** "2 less trust, at least 0 (for two of them twice)": five of them five times. */
    static void promise10SeveralOldSightingsOfOneWatcher() {
        int[] due = {9, 7, 5, 3, 1, 0};
        for (int sighted = 0; sighted <= 5; sighted++) {
            SailorCandles x = ships("", "", "", "", "");
            watchers(x, 2);
            raiseTrust(x, 0, 0, 4);
            Check.equal("trust at first", 9, x.trustOf(0));
            sailAll(x);
            for (int ship = 0; ship < sighted; ship++) {
                x.sight(0, ship);
            }
            x.burnNights(2);
            Check.equal("2 nights old", 9, x.trustOf(0));
            x.burnNights(1);
            Check.equal(sighted + " old ones", due[sighted], x.trustOf(0));
            Check.equal("sightings", 0, x.sightings());
            Check.equal("the other watcher", 5, x.trustOf(1));
        }
    }

    /** "at least 0": from 2 to 0, from 1 to 0, from 0 to 0. */
    static void promise10TrustFromTwoOneAndNought() {
        SailorCandles x = ships("");
        watchers(x, 2);
        raiseTrust(x, 0, 0, 1);
        x.sail(0);
        int[] even = {4, 2, 0, 0};
        int[] odd = {3, 1, 0, 0};
        for (int i = 0; i < even.length; i++) {
            x.sight(0, 0);
            x.sight(1, 0);
            x.burnNights(3);
            Check.equal("even", even[i], x.trustOf(0));
            Check.equal("odd", odd[i], x.trustOf(1));
        }
    }

    /** "then these are dropped": so that this watcher may report the ship again, and not ahead of it. */
    static void promise10DroppedSightingsMayComeAgain() {
        SailorCandles x = ships("0");
        watchers(x, 1);
        sailAll(x);
        x.sight(0, 0);
        for (int night = 1; night <= 2; night++) {
            x.burnNights(1);
            Check.noState("night " + night, x, () -> x.sight(0, 0));
        }
        x.burnNights(1);
        x.sight(0, 0);
        Check.equal("sightings", 1, x.sightings());
        x.burnNights(2);
        Check.equal("the new one is 2 nights old", 1, x.sightings());
        Check.equal("trust", 3, x.trustOf(0));
    }

    // ---- "2. Each ship of which the bell is rung, and in which the trust is less than 6 now"

    /** "now", behind step 1: 6 keeps the bell rung and 5 does not, while the sighting stays. */
    static void promise10SixKeepsTheBellAndFiveDoesNot() {
        SailorCandles six = rungByOneTrusted(8);
        six.burnNights(1);
        Check.equal("trustIn", 6, six.trustIn(0));
        Check.yes("6", six.isRung(0));
        Check.equal("only the other bell is un-rung", 1, six.bellsUnrung());
        SailorCandles five = rungByOneTrusted(7);
        five.burnNights(1);
        Check.equal("trustIn", 5, five.trustIn(0));
        Check.no("5", five.isRung(0));
        Check.equal("both are un-rung", 2, five.bellsUnrung());
        Check.equal("sightings", 1, five.sightings());
    }

    /** The watcher's sighting of ship 1 is 3 nights old behind the next night, that of ship 0 is 2. */
    private static SailorCandles rungByOneTrusted(int trust) {
        SailorCandles x = ships("0", "");
        watchers(x, 1);
        raiseTrust(x, 0, 1, trust - 5);
        sailAll(x);
        x.sight(0, 1);
        x.burnNights(1);
        Check.yes("trusted enough alone", x.sight(0, 0));
        x.burnNights(1);
        return x;
    }

    /** "the bell is un-rung": once, and it may be rung again. */
    static void promise10ABellIsUnrungOnceAndMayRingAgain() {
        SailorCandles x = ships("0");
        watchers(x, 4);
        sailAll(x);
        x.sight(0, 0);
        x.sight(1, 0);
        x.burnNights(9);
        Check.equal("once", 1, x.bellsUnrung());
        x.sight(2, 0);
        Check.yes("again", x.sight(3, 0));
        x.burnNights(3);
        Check.equal("twice", 2, x.bellsUnrung());
    }

    // ---- "3. The candle of each sailor, by numbers, who is waited for, and of whose ship the bell is not rung"

    /** "it is 1 less, and by the number of the mast less": 12, 6 and 4 nights, and no night more. */
    static void promise10EachMastBurnsForItsNights() {
        int[] nights = {12, 6, 4};
        for (int mast = 0; mast < 3; mast++) {
            SailorCandles x = ships("" + (char) ('0' + mast));
            x.buyWax(12);
            sailAll(x);
            x.burnNights(nights[mast] - 1);
            Check.equal("the last night", mast + 1, x.candleOf(0));
            Check.no("not dark yet", x.isDark(0));
            x.burnNights(1);
            Check.equal("burned down", 0, x.candleOf(0));
            Check.yes("dark", x.isDark(0));
        }
    }

    /** "at least 0": dark ones stay at 0, whatever their mast. */
    static void promise10DarkOnesStayAtNought() {
        SailorCandles x = ships("012");
        x.buyWax(11);
        sailAll(x);
        x.burnNights(60);
        candlesAre(x, 0, 0, 0);
        Check.equal("wax", 11, x.wax());
    }

    /** "by numbers": of sailors, whatever their ships' numbers are. */
    static void promise10WaxGoesBySailorsNotByShips() {
        SailorCandles x = ships("", "");
        int[] shipOf = {1, 0, 1, 0};
        for (int ship : shipOf) {
            x.addSailor(ship, 2, true);
        }
        sailAll(x);
        x.buyWax(25);
        Check.equal("burnNights", 2, x.burnNights(1));
        candlesAre(x, 12, 12, 0, 0);
        Check.equal("wax", 1, x.wax());
        x.buyWax(11);
        Check.equal("burnNights", 1, x.burnNights(1));
        candlesAre(x, 9, 9, 12, 0);
    }

    /** "If it is 0 then": one that burns down goes ahead of a dark one with a greater number, and only then. */
    static void promise10BurnedDownAndDarkOnesGoByNumbersAlike() {
        SailorCandles x = ships("20");
        x.buyWax(12);
        sailAll(x);
        candlesAre(x, 12, 0);
        x.burnNights(3);
        x.buyWax(12);
        Check.equal("burnNights", 1, x.burnNights(1));
        candlesAre(x, 12, 0);
        SailorCandles y = ships("20");
        y.buyWax(12);
        sailAll(y);
        y.burnNights(2);
        y.buyWax(12);
        Check.equal("burnNights", 1, y.burnNights(1));
        candlesAre(y, 3, 12);
    }

    /** "and there is wax of 12 or more": 11, 12, 13, and for two 23 and 24. */
    static void promise10TwelveAreTakenOrNone() {
        int[] bought = {11, 12, 13, 23, 24, 25};
        int[] taken = {0, 1, 1, 1, 2, 2};
        for (int i = 0; i < bought.length; i++) {
            SailorCandles x = ships("00");
            sailAll(x);
            x.buyWax(bought[i]);
            Check.equal("bought " + bought[i], taken[i], x.burnNights(1));
            Check.equal("left of " + bought[i], bought[i] - 12 * taken[i], x.wax());
            candlesAre(x, taken[i] > 0 ? 12 : 0, taken[i] > 1 ? 12 : 0);
        }
    }

    /** A new candle is not burned in the night in which it is taken, and burns in the next one. */
    static void promise10ANewCandleIsWhole() {
        SailorCandles x = ships("2");
        sailAll(x);
        x.buyWax(12);
        x.burnNights(1);
        candlesAre(x, 12);
        x.burnNights(1);
        candlesAre(x, 9);
    }

    /** All sixteen sailors at once: "for how many candles wax is taken". */
    static void promise10SixteenCandlesInANight() {
        SailorCandles x = ships("0000000000000000");
        sailAll(x);
        x.buyWax(191);
        Check.equal("15 candles", 15, x.burnNights(1));
        Check.equal("wax", 11, x.wax());
        Check.equal("darkCandles", 1, x.darkCandles());
        SailorCandles y = ships("0000000000000000");
        sailAll(y);
        y.buyWax(192);
        Check.equal("16 candles", 16, y.burnNights(1));
        Check.equal("wax", 0, y.wax());
        Check.equal("darkCandles", 0, y.darkCandles());
    }

    /** "in them": candles of all the nights are counted, the first and the last night's too. */
    static void promise10CandlesOfAllNightsCount() {
        SailorCandles x = ships("2");
        sailAll(x);
        x.buyWax(500);
        Check.equal("nights 1, 5, .. 57", 15, x.burnNights(60));
        Check.equal("night 61", 1, x.burnNights(1));
        Check.equal("wax", 500 - 16 * 12, x.wax());
    }

    /** "who is waited for": neither at home nor lost. */
    static void promise10OnlyThoseWaitedForGetCandles() {
        SailorCandles x = ships("0", "0", "0");
        x.sail(0);
        x.sail(1);
        giveUp(x, 0);
        x.burnNights(21);
        Check.yes("isLost", x.isLost(0));
        x.buyWax(100);
        Check.equal("burnNights", 1, x.burnNights(1));
        candlesAre(x, 0, 12, 0);
    }

    /** "of whose ship the bell is not rung": another ship's bell spares no candle of this one. */
    static void promise10ABellSparesItsOwnShipsCandles() {
        SailorCandles x = ships("1", "1");
        watchers(x, 2);
        x.buyWax(24);
        sailAll(x);
        x.sight(0, 1);
        x.sight(1, 1);
        x.burnNights(2);
        candlesAre(x, 8, 12);
        x.burnNights(1);
        candlesAre(x, 6, 10);
    }

    // ---- "4. Each ship, by numbers, that is out: it is out for a night more."

    /** "that is out": neither at home nor lost. Bells make no difference to it. */
    static void promise10OnlyShipsOutCountNights() {
        SailorCandles x = ships("0", "0", "0");
        watchers(x, 2);
        x.sail(0);
        x.sail(1);
        giveUp(x, 0);
        x.burnNights(20);
        x.sight(0, 1);
        x.sight(1, 1);
        x.burnNights(2);
        Check.equal("lost", 21, x.nightsOut(0));
        Check.equal("out, and rung", 22, x.nightsOut(1));
        Check.equal("at home", 0, x.nightsOut(2));
    }

    /** "more than half of all who vote for its sailors have given it up": each number of voters, each of votes. */
    static void promise10MoreThanHalfLosesTheShip() {
        for (int voters = 0; voters <= 7; voters++) {
            for (int given = 0; given <= voters; given++) {
                SailorCandles x = ships("");
                for (int sailor = 0; sailor < 8; sailor++) {
                    x.addSailor(0, 0, sailor < voters);
                }
                x.sail(0);
                for (int sailor = 0; sailor < given; sailor++) {
                    x.vote(sailor, true);
                }
                String what = given + " of " + voters;
                x.burnNights(20);
                Check.no(what + " in 20 nights", x.isLost(0));
                x.burnNights(1);
                Check.yes(what + " in 21 nights", x.isLost(0) == (given * 2 > voters));
                Check.yes(what + ": votesMissing", x.isLost(0) == (x.votesMissing(0) == 0));
            }
        }
    }

    /** Votes for the sailors of one ship do not lose another. */
    static void promise10VotesAreOfTheirShip() {
        SailorCandles x = ships("00", "0");
        sailAll(x);
        giveUp(x, 0, 1);
        x.burnNights(30);
        Check.yes("given up", x.isLost(0));
        Check.no("not given up", x.isLost(1));
    }

    /** "If these are more than 20": votes taken back by then do not count, later ones do at once. */
    static void promise10VotesOfTheNightCount() {
        SailorCandles x = ships("0");
        sailAll(x);
        giveUp(x, 0);
        x.burnNights(20);
        x.vote(0, false);
        x.burnNights(10);
        Check.no("taken back", x.isLost(0));
        giveUp(x, 0);
        x.burnNights(1);
        Check.yes("given up", x.isLost(0));
        Check.equal("nightsOut", 31, x.nightsOut(0));
    }

    /** A ship that is out again has 20 nights again, and has to be given up again. */
    static void promise10TwentyNightsEachTime() {
        SailorCandles x = ships("0");
        sailAll(x);
        giveUp(x, 0);
        x.burnNights(21);
        Check.yes("isLost", x.isLost(0));
        x.comeHome(0);
        x.sail(0);
        x.burnNights(21);
        Check.no("not given up this time", x.isLost(0));
        x.comeHome(0);
        x.sail(0);
        giveUp(x, 0);
        x.burnNights(20);
        Check.no("20 nights", x.isLost(0));
        x.burnNights(1);
        Check.yes("21 nights", x.isLost(0));
    }

    /** "the heights of its sailors' candles are wax again": behind step 3, so for candles of the next night. */
    static void promise10WaxOfTheLostIsForTheNextNight() {
        SailorCandles x = ships("0", "0");
        x.sail(1);
        x.burnNights(9);
        x.sail(0);
        giveUp(x, 0);
        x.buyWax(12);
        Check.equal("the first takes it", 1, x.burnNights(1));
        candlesAre(x, 12, 0);
        x.burnNights(11);
        candlesAre(x, 1, 0);
        x.buyWax(12);
        Check.equal("and again", 1, x.burnNights(1));
        candlesAre(x, 12, 0);
        Check.equal("nothing for the other", 0, x.burnNights(7));
        Check.equal("nor in the night of the loss", 0, x.burnNights(1));
        Check.yes("isLost", x.isLost(0));
        Check.equal("4 are left of the candle", 4, x.wax());
        candlesAre(x, 0, 0);
        x.buyWax(8);
        Check.equal("but in the next night", 1, x.burnNights(1));
        candlesAre(x, 0, 12);
    }

    /** "its bell is not rung any more (that is no un-ringing)": but step 2 of that night is one. */
    static void promise10UnringingAheadOfTheLossCounts() {
        SailorCandles x = ships("0");
        watchers(x, 2);
        sailAll(x);
        giveUp(x, 0);
        x.burnNights(18);
        x.sight(0, 0);
        x.sight(1, 0);
        x.burnNights(3);
        Check.yes("isLost", x.isLost(0));
        Check.equal("bellsUnrung", 1, x.bellsUnrung());
        Check.equal("trust was lost in step 1", 3, x.trustOf(0));
    }

    /** "sightings of it are dropped": those of other ships stay, and trust too. */
    static void promise10OnlySightingsOfTheLostAreDropped() {
        SailorCandles x = ships("0", "0");
        watchers(x, 2);
        sailAll(x);
        giveUp(x, 0);
        x.burnNights(20);
        x.sight(0, 0);
        x.sight(1, 0);
        x.sight(0, 1);
        x.burnNights(1);
        Check.equal("sightings", 1, x.sightings());
        Check.equal("trustIn the lost", 0, x.trustIn(0));
        Check.equal("trustIn the other", 5, x.trustIn(1));
        x.burnNights(2);
        Check.equal("one old sighting", 3, x.trustOf(0));
        Check.equal("none", 5, x.trustOf(1));
    }

    /** "the heights of its sailors' candles are wax again, and these are 0": of all sixteen, and of no others. */
    static void promise10WaxOfAllSixteenIsBack() {
        SailorCandles x = ships("000000000000000", "0");
        x.buyWax(32 * 12);
        sailAll(x);
        giveUp(x, 0, 1, 2, 3, 4, 5, 6, 7);
        Check.equal("new candles in night 12", 16, x.burnNights(20));
        Check.equal("wax", 0, x.wax());
        x.burnNights(1);
        Check.yes("isLost", x.isLost(0));
        Check.equal("3 of each", 15 * 3, x.wax());
        for (int sailor = 0; sailor < 16; sailor++) {
            Check.equal("candleOf(" + sailor + ")", sailor == 15 ? 3 : 0, x.candleOf(sailor));
        }
    }

    /** Several ships may be lost in one night. */
    static void promise10TwoShipsLostInANight() {
        SailorCandles x = ships("0", "0", "0");
        x.buyWax(100);
        sailAll(x);
        giveUp(x, 0, 2);
        x.burnNights(21);
        Check.yes("isLost(0)", x.isLost(0));
        Check.no("isLost(1)", x.isLost(1));
        Check.yes("isLost(2)", x.isLost(2));
        Check.equal("namesOnWall", 2, x.namesOnWall());
        Check.equal("three new candles, and two of 3 are wax again", 100 - 72 + 2 * 3, x.wax());
    }

    // ---- "5. The number of nights is 1 greater."

    /** "Time is told in nights, from 0": with nobody there too. */
    static void promise10NightsPassInAnEmptyHarbour() {
        SailorCandles x = new SailorCandles();
        Check.equal("night", 0, x.night());
        Check.equal("burnNights(1)", 0, x.burnNights(1));
        Check.equal("night", 1, x.night());
        Check.equal("burnNights(60)", 0, x.burnNights(60));
        Check.equal("night", 61, x.night());
    }

    // ---- "An object is used for at most 512 calls after it has been made"

    static void promise10MostNightsInFiveHundredTwelveCalls() {
        SailorCandles x = ships("0");
        x.sail(0);
        for (int call = 4; call <= 510; call++) {
            Check.equal("burnNights", 0, x.burnNights(60));
        }
        Check.equal("night", 507 * 60, x.night());
        Check.equal("nightsOut", 507 * 60, x.nightsOut(0));
    }

    static void promise05MostWaxInFiveHundredTwelveCalls() {
        SailorCandles x = new SailorCandles();
        for (int call = 1; call <= 511; call++) {
            Check.equal("buyWax", call * 500, x.buyWax(500));
        }
        Check.equal("wax", 511 * 500, x.wax());
    }
}
