/** Promises 36 to 42: what would be. */
final class ForecastTest {

    private ForecastTest() {
    }

    /** Ships 0 (out) with a sailor a mast and voters, 1 (out) and 2 (at home) with a sailor each; 4 watchers. */
    private static SailorCandles fleet(int wax) {
        SailorCandles x = new SailorCandles();
        x.addShip(3);
        x.addShip(1);
        x.addShip(2);
        for (int mast = 0; mast < 3; mast++) {
            x.addSailor(0, mast, true);
        }
        x.addSailor(1, 0, false);
        x.addSailor(2, 1, true);
        for (int watcher = 0; watcher < 4; watcher++) {
            x.addWatcher();
        }
        if (wax > 0) {
            x.buyWax(wax);
        }
        x.sail(0);
        x.sail(1);
        return x;
    }

    private static boolean litThrough(SailorCandles x, int nights) {
        for (int night = 0; night < nights; night++) {
            x.burnNights(1);
            if (x.darkCandles() > 0) {
                return false;
            }
        }
        return true;
    }

    static void promise36WouldRingTellsWhatSightDoes() {
        SailorCandles x = fleet(100);
        String before = Answers.of(x);
        Check.no("5", x.wouldRing(0, 0));
        Check.equal("nothing is changed", before, Answers.of(x));
        Check.no("5", x.sight(0, 0));
        Check.yes("10", x.wouldRing(1, 0));
        Check.no("nothing is rung by asking", x.isRung(0));
        Check.no("5 of the other ship", x.wouldRing(1, 1));
        Check.yes("10", x.sight(1, 0));
        Check.yes("rung already", x.wouldRing(2, 0));
        x.comeHome(0);
        Check.yes("6", x.wouldRing(0, 1));
        Check.no("5", x.wouldRing(2, 1));
    }

    static void promise36WouldRingAtTheEdge() {
        SailorCandles x = fleet(100);
        for (int watcher = 0; watcher < 4; watcher++) {
            x.sight(watcher, 0);
        }
        x.burnNights(3);
        x.sight(0, 0);
        Check.yes("3 and 3", x.wouldRing(1, 0));
        x.sight(1, 1);
        x.burnNights(3);
        x.sight(0, 0);
        x.sight(2, 0);
        Check.equal("trustIn", 4, x.trustIn(0));
        Check.no("4 and 1", x.wouldRing(1, 0));
        Check.yes("4 and 3", x.wouldRing(3, 0));
    }

    static void promise36WrongAsking() {
        SailorCandles x = fleet(100);
        int[] wrongWatchers = {-1, 4, 5, Integer.MIN_VALUE, Integer.MAX_VALUE};
        for (int watcher : wrongWatchers) {
            Check.noIndex("watcher " + watcher, x, () -> x.wouldRing(watcher, 0));
        }
        int[] wrongShips = {-1, 3, 5, Integer.MIN_VALUE, Integer.MAX_VALUE};
        for (int ship : wrongShips) {
            Check.noIndex("ship " + ship, x, () -> x.wouldRing(0, ship));
        }
        Check.noIndex("no watcher, ship at home", x, () -> x.wouldRing(4, 2));
        Check.noState("ship at home", x, () -> x.wouldRing(0, 2));
        x.sight(0, 0);
        Check.noState("sighted already", x, () -> x.wouldRing(0, 0));
        x.vote(0, true);
        x.vote(1, true);
        x.burnNights(21);
        Check.yes("isLost", x.isLost(0));
        Check.noState("ship is lost", x, () -> x.wouldRing(0, 0));
    }

    static void promise37NightsUntilUnrung() {
        SailorCandles x = fleet(100);
        x.sight(0, 0);
        x.sight(1, 0);
        String before = Answers.of(x);
        Check.equal("both new", 3, x.nightsUntilUnrung(0));
        Check.equal("nothing is changed", before, Answers.of(x));
        x.burnNights(1);
        Check.equal("one night old", 2, x.nightsUntilUnrung(0));
        x.sight(2, 0);
        x.burnNights(1);
        Check.equal("the third alone is 5", 1, x.nightsUntilUnrung(0));
        x.sight(3, 0);
        Check.equal("the third and fourth are 10", 2, x.nightsUntilUnrung(0));
        x.burnNights(2);
        Check.no("isRung", x.isRung(0));
        Check.equal("bellsUnrung", 1, x.bellsUnrung());
    }

    static void promise37LossEndsTheRinging() {
        SailorCandles x = fleet(100);
        x.vote(0, true);
        x.vote(1, true);
        x.burnNights(19);
        x.sight(0, 0);
        x.sight(1, 0);
        Check.equal("lost in the second night", 2, x.nightsUntilUnrung(0));
        x.vote(1, false);
        Check.equal("not lost", 3, x.nightsUntilUnrung(0));
        x.vote(1, true);
        x.burnNights(1);
        Check.equal("lost in the next night", 1, x.nightsUntilUnrung(0));
    }

    static void promise37WrongAsking() {
        SailorCandles x = fleet(100);
        int[] wrong = {-1, 3, 5, Integer.MIN_VALUE, Integer.MAX_VALUE};
        for (int ship : wrong) {
            Check.noIndex("ship " + ship, x, () -> x.nightsUntilUnrung(ship));
        }
        Check.noState("out, not rung", x, () -> x.nightsUntilUnrung(0));
        Check.noState("at home", x, () -> x.nightsUntilUnrung(2));
        x.sight(0, 0);
        Check.noState("sighted, not rung", x, () -> x.nightsUntilUnrung(0));
    }

    static void promise38DarkInTime() {
        SailorCandles x = fleet(48);
        String before = Answers.of(x);
        Check.equal("the highest mast", 4, x.nightsUntilDark());
        Check.equal("nothing is changed", before, Answers.of(x));
        x.burnNights(3);
        Check.equal("nightsUntilDark", 1, x.nightsUntilDark());
        x.burnNights(1);
        Check.equal("now", 0, x.nightsUntilDark());
        x.buyWax(12);
        Check.equal("dark ones of now count", 0, x.nightsUntilDark());
        Check.equal("nobody waited for", -1, new SailorCandles().nightsUntilDark());
    }

    static void promise38BellsPutItOff() {
        SailorCandles x = fleet(48);
        x.sight(0, 0);
        x.sight(1, 0);
        Check.equal("two nights later", 6, x.nightsUntilDark());
    }

    /** One sailor burns 1 a night: 12 + 12 * k nights from k more candles. */
    private static SailorCandles loneSailor(int wax) {
        SailorCandles x = new SailorCandles();
        x.addShip(1);
        x.addSailor(0, 0, true);
        x.buyWax(wax);
        x.sail(0);
        return x;
    }

    static void promise38TwoHundredNights() {
        SailorCandles x = loneSailor(12 + 15 * 12);
        Check.equal("16 candles", 192, x.nightsUntilDark());
        x.buyWax(12);
        Check.equal("17 candles", -1, x.nightsUntilDark());
        x.burnNights(3);
        Check.equal("behind 201", -1, x.nightsUntilDark());
        x.burnNights(1);
        Check.equal("behind 200", 200, x.nightsUntilDark());
        x.burnNights(1);
        Check.equal("behind 199", 199, x.nightsUntilDark());
    }

    static void promise38LossComesFirst() {
        SailorCandles x = loneSailor(12);
        x.vote(0, true);
        Check.equal("dark ahead of the loss", 12, x.nightsUntilDark());
        x.buyWax(12);
        Check.equal("lost ahead of the dark", -1, x.nightsUntilDark());
    }

    static void promise39WaxAfter() {
        SailorCandles x = fleet(100);
        SailorCandles twin = fleet(100);
        x.vote(0, true);
        x.vote(1, true);
        twin.vote(0, true);
        twin.vote(1, true);
        String before = Answers.of(x);
        Check.equal("waxAfter(3)", 52, x.waxAfter(3));
        Check.equal("waxAfter(4)", 40, x.waxAfter(4));
        Check.equal("nothing is changed", before, Answers.of(x));
        for (int nights = 1; nights <= 200; nights++) {
            twin.burnNights(1);
            Check.equal("waxAfter(" + nights + ")", twin.wax(), x.waxAfter(nights));
        }
    }

    static void promise39WrongNights() {
        SailorCandles x = fleet(100);
        int[] wrong = {0, 201, -1, Integer.MIN_VALUE, Integer.MAX_VALUE};
        for (int nights : wrong) {
            Check.noArgument("waxAfter(" + nights + ")", x, () -> x.waxAfter(nights));
        }
        Check.equal("200 is right", x.waxAfter(199), x.waxAfter(200));
    }

    static void promise40WaxWanted() {
        SailorCandles x = fleet(48);
        String before = Answers.of(x);
        Check.equal("3 nights", 0, x.waxWanted(3));
        Check.equal("4 nights", 12, x.waxWanted(4));
        Check.equal("6 nights", 24, x.waxWanted(6));
        Check.equal("12 nights: 2, 2, 3 and 4 candles less 4", 12 * (1 + 2 + 3 + 1), x.waxWanted(12));
        Check.equal("nothing is changed", before, Answers.of(x));
    }

    static void promise40WaxThatIsThereCounts() {
        SailorCandles x = fleet(48 + 11);
        Check.equal("4 nights", 1, x.waxWanted(4));
        x.buyWax(1);
        Check.equal("4 nights", 0, x.waxWanted(4));
        Check.equal("5 nights", 0, x.waxWanted(5));
        Check.equal("6 nights", 12, x.waxWanted(6));
    }

    static void promise40DarkOnesOfNowDoNotMatter() {
        SailorCandles x = fleet(0);
        Check.equal("4 dark ones", 4, x.darkCandles());
        Check.equal("1 night", 48, x.waxWanted(1));
        x.sight(0, 0);
        x.sight(1, 0);
        Check.equal("a bell keeps them dark", -1, x.waxWanted(1));
    }

    static void promise40AskedForByOne() {
        int[] starts = {0, 20, 48, 60, 130};
        for (int start : starts) {
            for (int nights = 1; nights <= 60; nights += 7) {
                SailorCandles x = fleet(start);
                int wanted = x.waxWanted(nights);
                int due = -1;
                for (int wax = 0; wax <= 500 && due < 0; wax++) {
                    SailorCandles twin = fleet(start);
                    if (wax > 0) {
                        twin.buyWax(wax);
                    }
                    if (litThrough(twin, nights)) {
                        due = wax;
                    }
                }
                Check.equal("start " + start + ", waxWanted(" + nights + ")", due, wanted);
            }
        }
    }

    /** Five sailors on the third mast: 5 new candles each 4 nights. */
    private static SailorCandles hungryFive(int wax) {
        SailorCandles x = new SailorCandles();
        x.addShip(3);
        for (int sailor = 0; sailor < 5; sailor++) {
            x.addSailor(0, 2, false);
        }
        x.buyWax(wax);
        x.sail(0);
        return x;
    }

    static void promise40FiveHundredAtMost() {
        Check.equal("480", 480, hungryFive(60).waxWanted(35));
        Check.equal("540", -1, hungryFive(60).waxWanted(36));
        Check.equal("500", 500, hungryFive(100).waxWanted(36));
        Check.equal("501", -1, hungryFive(99).waxWanted(36));
        Check.equal("499", 499, hungryFive(101).waxWanted(36));
    }

    static void promise40LossEndsTheWant() {
        SailorCandles x = loneSailor(12);
        x.vote(0, true);
        x.buyWax(12);
        Check.equal("lost ahead of the dark", 0, x.waxWanted(60));
        SailorCandles y = loneSailor(12);
        y.vote(0, true);
        Check.equal("one candle to the loss", 12, y.waxWanted(60));
    }

    static void promise40WrongNights() {
        SailorCandles x = fleet(100);
        int[] wrong = {0, 61, -1, Integer.MIN_VALUE, Integer.MAX_VALUE};
        for (int nights : wrong) {
            Check.noArgument("waxWanted(" + nights + ")", x, () -> x.waxWanted(nights));
        }
    }

    static void promise41MeanTrust() {
        SailorCandles x = new SailorCandles();
        Check.equal("without any", 0.0, x.meanTrust());
        x.addWatcher();
        Check.equal("one", 5.0, x.meanTrust());
        x.addWatcher();
        x.addWatcher();
        x.addShip(1);
        x.sail(0);
        x.sight(0, 0);
        x.comeHome(0);
        Check.equal("6, 5, 5", 16.0 / 3.0, x.meanTrust());
        x.addWatcher();
        Check.equal("6, 5, 5, 5", 5.25, x.meanTrust());
    }

    private static long digestOf(SailorCandles x) {
        long[] chapel = {x.ships(), x.sailors(), x.watchers(), x.sightings(), x.night(), x.wax(),
            x.darkCandles(), x.bellsUnrung(), x.namesOnWall()};
        long d = mix(1949, chapel);
        for (int ship = 0; ship < x.ships(); ship++) {
            d = mix(d, x.mastsOf(ship), x.isAway(ship) ? 1 : 0, x.isLost(ship) ? 1 : 0, x.nightsOut(ship),
                x.isRung(ship) ? 1 : 0, x.trustIn(ship), x.voters(ship), x.votesForLost(ship));
        }
        for (int sailor = 0; sailor < x.sailors(); sailor++) {
            d = mix(d, x.shipOf(sailor), x.mastOf(sailor), x.hasVoter(sailor) ? 1 : 0,
                x.isGivenUp(sailor) ? 1 : 0, x.candleOf(sailor));
        }
        for (int watcher = 0; watcher < x.watchers(); watcher++) {
            d = mix(d, x.trustOf(watcher));
        }
        return d;
    }

    private static long mix(long start, long... numbers) {
        long d = start;
        for (long x : numbers) {
            d = d * 31 + x;
        }
        return d;
    }

    static void promise42Digest() {
        long empty = 1949;
        for (int i = 0; i < 9; i++) {
            empty *= 31;
        }
        Check.equal("empty", empty, new SailorCandles().digest());
        SailorCandles x = fleet(200);
        Check.equal("out", digestOf(x), x.digest());
        x.sight(0, 0);
        x.sight(1, 0);
        x.sight(1, 1);
        x.vote(0, true);
        x.vote(1, true);
        x.burnNights(1);
        Check.equal("rung", digestOf(x), x.digest());
        x.burnNights(30);
        Check.equal("lost", digestOf(x), x.digest());
        x.comeHome(1);
        Check.equal("home", digestOf(x), x.digest());
    }
}
