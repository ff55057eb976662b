/** Promise 10: what goes on in a night, step by step. */
final class NightsTest {

    private NightsTest() {
    }

    /** A ship of 3 masts, out, with one sailor a mast, all with voters. */
    private static SailorCandles oneShip(int wax, int watchers) {
        SailorCandles x = new SailorCandles();
        x.addShip(3);
        for (int mast = 0; mast < 3; mast++) {
            x.addSailor(0, mast, true);
        }
        for (int watcher = 0; watcher < watchers; watcher++) {
            x.addWatcher();
        }
        if (wax > 0) {
            x.buyWax(wax);
        }
        x.sail(0);
        return x;
    }

    private static void candlesAre(SailorCandles x, int first, int second, int third) {
        Check.equal("candleOf(0)", first, x.candleOf(0));
        Check.equal("candleOf(1)", second, x.candleOf(1));
        Check.equal("candleOf(2)", third, x.candleOf(2));
    }

    static void promise10CandlesBurnByTheMast() {
        SailorCandles x = oneShip(36, 0);
        Check.equal("burnNights", 0, x.burnNights(1));
        candlesAre(x, 11, 10, 9);
        x.burnNights(2);
        candlesAre(x, 9, 6, 3);
        x.burnNights(1);
        candlesAre(x, 8, 4, 0);
        x.burnNights(3);
        candlesAre(x, 5, 0, 0);
        x.burnNights(60);
        candlesAre(x, 0, 0, 0);
    }

    static void promise10NewCandlesAreTakenAtOnce() {
        SailorCandles x = oneShip(36 + 25, 0);
        Check.equal("burnNights(3)", 0, x.burnNights(3));
        Check.equal("burnNights(1)", 1, x.burnNights(1));
        candlesAre(x, 8, 4, 12);
        Check.equal("wax", 13, x.wax());
        Check.equal("burnNights(2)", 1, x.burnNights(2));
        candlesAre(x, 6, 12, 6);
        Check.equal("wax", 1, x.wax());
        Check.equal("burnNights(2)", 0, x.burnNights(2));
        candlesAre(x, 4, 8, 0);
    }

    static void promise10ElevenIsNotEnough() {
        SailorCandles x = oneShip(36 + 11, 0);
        Check.equal("burnNights", 0, x.burnNights(4));
        candlesAre(x, 8, 4, 0);
        Check.equal("wax", 11, x.wax());
        x.buyWax(1);
        Check.equal("burnNights", 1, x.burnNights(1));
        candlesAre(x, 7, 2, 12);
        Check.equal("wax", 0, x.wax());
    }

    static void promise10DarkOnesGetCandlesByNumbers() {
        SailorCandles x = oneShip(0, 0);
        x.buyWax(30);
        Check.equal("burnNights", 2, x.burnNights(1));
        candlesAre(x, 12, 12, 0);
        Check.equal("wax", 6, x.wax());
    }

    static void promise10UnevenBurningStopsAtZero() {
        SailorCandles x = new SailorCandles();
        x.addShip(2);
        x.addSailor(0, 1, false);
        x.buyWax(12);
        x.sail(0);
        x.burnNights(5);
        Check.equal("candleOf", 2, x.candleOf(0));
        x.burnNights(7);
        Check.equal("candleOf", 0, x.candleOf(0));
    }

    static void promise10CandlesRestWhileTheBellIsRung() {
        SailorCandles x = oneShip(24, 2);
        x.sight(0, 0);
        x.sight(1, 0);
        x.buyWax(100);
        Check.equal("burnNights", 0, x.burnNights(2));
        candlesAre(x, 12, 12, 0);
        Check.equal("wax", 100, x.wax());
        Check.yes("a dark one stays dark", x.isDark(2));
        Check.equal("un-rung ahead of the candles", 1, x.burnNights(1));
        candlesAre(x, 11, 10, 12);
        Check.equal("bellsUnrung", 1, x.bellsUnrung());
    }

    static void promise10CandlesOfOthersDoNotBurn() {
        SailorCandles x = oneShip(36, 0);
        x.addShip(1);
        x.addSailor(1, 0, true);
        x.buyWax(40);
        x.burnNights(1);
        Check.equal("at home", 0, x.candleOf(3));
        Check.equal("wax", 40, x.wax());
    }

    static void promise10SightingsGetOldInThreeNights() {
        SailorCandles x = oneShip(36, 1);
        x.sight(0, 0);
        x.burnNights(2);
        Check.equal("sightings", 1, x.sightings());
        Check.equal("trustOf", 5, x.trustOf(0));
        Check.equal("trustIn", 5, x.trustIn(0));
        x.burnNights(1);
        Check.equal("sightings", 0, x.sightings());
        Check.equal("trustOf", 3, x.trustOf(0));
        Check.equal("trustIn", 0, x.trustIn(0));
        x.burnNights(10);
        Check.equal("trustOf", 3, x.trustOf(0));
    }

    static void promise10TrustIsAtLeastZero() {
        SailorCandles x = oneShip(36, 1);
        int[] due = {3, 1, 0, 0};
        for (int trust : due) {
            x.sight(0, 0);
            x.burnNights(3);
            Check.equal("trustOf", trust, x.trustOf(0));
        }
    }

    static void promise10TwoOldSightingsTwiceLess() {
        SailorCandles x = oneShip(36, 2);
        x.addShip(1);
        x.sail(1);
        x.sight(0, 0);
        x.sight(0, 1);
        x.burnNights(3);
        Check.equal("trustOf(0)", 1, x.trustOf(0));
        Check.equal("trustOf(1)", 5, x.trustOf(1));
        x.sight(0, 0);
        x.sight(0, 1);
        x.burnNights(3);
        Check.equal("trustOf(0)", 0, x.trustOf(0));
    }

    static void promise10LessTrustElsewhereUnringsToo() {
        SailorCandles x = oneShip(36, 2);
        x.addShip(1);
        x.sail(1);
        x.sight(0, 1);
        x.burnNights(1);
        x.sight(0, 0);
        Check.yes("5 and 5", x.sight(1, 0));
        x.burnNights(2);
        Check.equal("3 and 5", 8, x.trustIn(0));
        Check.yes("is enough", x.isRung(0));
        x.burnNights(1);
        Check.no("both are dropped", x.isRung(0));
        Check.equal("bellsUnrung", 1, x.bellsUnrung());
    }

    static void promise10FiveIsTooLittleSixIsNot() {
        SailorCandles x = oneShip(36, 2);
        x.addShip(1);
        x.addShip(1);
        x.sail(1);
        x.sail(2);
        x.sight(0, 1);
        x.sight(1, 1);
        x.burnNights(1);
        x.sight(0, 0);
        Check.yes("5 and 5", x.sight(1, 0));
        x.burnNights(2);
        Check.equal("trustIn", 6, x.trustIn(0));
        Check.yes("3 and 3 keep it rung", x.isRung(0));
        Check.equal("only the other bell is un-rung", 1, x.bellsUnrung());
    }

    static void promise10UnrungWhileItsSightingsStay() {
        SailorCandles x = oneShip(36, 2);
        x.addShip(1);
        x.sail(1);
        x.sight(1, 1);
        x.comeHome(1);
        x.sail(1);
        x.sight(1, 1);
        x.burnNights(3);
        x.sight(1, 1);
        x.burnNights(3);
        Check.equal("trustOf(1)", 2, x.trustOf(1));
        x.sight(0, 1);
        x.burnNights(1);
        x.sight(0, 0);
        Check.yes("5 and 2", x.sight(1, 0));
        x.burnNights(1);
        Check.yes("rung yet", x.isRung(0));
        Check.equal("nightsUntilUnrung", 1, x.nightsUntilUnrung(0));
        x.burnNights(1);
        Check.equal("3 and 2", 5, x.trustIn(0));
        Check.no("are too little", x.isRung(0));
        Check.equal("this bell, and the other one that 6 had rung", 2, x.bellsUnrung());
        Check.equal("sightings", 2, x.sightings());
    }

    static void promise10NotLostInTwentyNights() {
        SailorCandles x = oneShip(36, 0);
        x.vote(0, true);
        x.vote(1, true);
        x.burnNights(20);
        Check.no("20 nights", x.isLost(0));
        Check.equal("nightsOut", 20, x.nightsOut(0));
        x.burnNights(1);
        Check.yes("21 nights", x.isLost(0));
        Check.yes("isAway", x.isAway(0));
        Check.equal("nightsOut", 21, x.nightsOut(0));
        x.burnNights(5);
        Check.equal("nightsOut stays", 21, x.nightsOut(0));
    }

    static void promise10HalfIsNotEnough() {
        SailorCandles x = new SailorCandles();
        x.addShip(1);
        for (int sailor = 0; sailor < 4; sailor++) {
            x.addSailor(0, 0, true);
        }
        x.addSailor(0, 0, false);
        x.sail(0);
        x.vote(0, true);
        x.vote(1, true);
        x.burnNights(30);
        Check.no("2 of 4", x.isLost(0));
        x.vote(3, true);
        x.burnNights(1);
        Check.yes("3 of 4", x.isLost(0));
    }

    static void promise10NobodyVotesNeverLost() {
        SailorCandles x = new SailorCandles();
        x.addShip(1);
        x.addShip(1);
        x.addSailor(0, 0, false);
        x.sail(0);
        x.sail(1);
        x.burnNights(60);
        Check.no("nobody votes", x.isLost(0));
        Check.no("without sailors", x.isLost(1));
        Check.equal("nightsOut", 60, x.nightsOut(1));
    }

    static void promise10LosingGivesWaxBackAndDropsSightings() {
        SailorCandles x = oneShip(36, 2);
        x.vote(0, true);
        x.vote(2, true);
        x.burnNights(19);
        x.buyWax(36);
        Check.equal("burnNights", 3, x.burnNights(1));
        candlesAre(x, 12, 12, 12);
        x.sight(0, 0);
        x.sight(1, 0);
        x.burnNights(1);
        Check.yes("isLost", x.isLost(0));
        candlesAre(x, 0, 0, 0);
        Check.equal("wax", 36, x.wax());
        Check.equal("sightings", 0, x.sightings());
        Check.no("isRung", x.isRung(0));
        Check.equal("that is no un-ringing", 0, x.bellsUnrung());
        x.burnNights(3);
        Check.equal("trust is not touched", 5, x.trustOf(0));
        Check.equal("darkCandles", 0, x.darkCandles());
        Check.equal("wax of the lost is not burned", 36, x.wax());
    }

    static void promise10CandlesTakenInTheNightOfLossCount() {
        SailorCandles x = oneShip(0, 0);
        x.vote(0, true);
        x.vote(1, true);
        x.burnNights(20);
        x.buyWax(30);
        Check.equal("two are taken ahead of the loss", 2, x.burnNights(1));
        Check.yes("isLost", x.isLost(0));
        Check.equal("and are wax again", 30, x.wax());
    }

    static void promise10NightsAreCounted() {
        SailorCandles x = oneShip(36, 0);
        x.burnNights(60);
        Check.equal("night", 60, x.night());
        x.burnNights(1);
        Check.equal("night", 61, x.night());
        Check.equal("nightsOut", 61, x.nightsOut(0));
    }

    static void promise10ManyNightsAreSingleOnes() {
        SailorCandles many = oneShip(500, 2);
        SailorCandles single = oneShip(500, 2);
        many.sight(0, 0);
        many.sight(1, 0);
        single.sight(0, 0);
        single.sight(1, 0);
        int taken = 0;
        for (int night = 0; night < 60; night++) {
            taken += single.burnNights(1);
        }
        Check.equal("burnNights", taken, many.burnNights(60));
        Check.equal("all", Answers.of(single), Answers.of(many));
    }

    static void promise10WrongNights() {
        SailorCandles x = oneShip(40, 1);
        int[] wrong = {0, 61, -1, Integer.MIN_VALUE, Integer.MAX_VALUE};
        for (int nights : wrong) {
            Check.noArgument("burnNights(" + nights + ")", x, () -> x.burnNights(nights));
        }
    }
}
