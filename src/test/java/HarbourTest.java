/** Promises 1 to 5: the harbour. */
final class HarbourTest {

    private HarbourTest() {
    }

    static void promise01NewObjectIsEmpty() {
        SailorCandles x = new SailorCandles();
        Check.equal("ships", 0, x.ships());
        Check.equal("sailors", 0, x.sailors());
        Check.equal("watchers", 0, x.watchers());
        Check.equal("sightings", 0, x.sightings());
        Check.equal("night", 0, x.night());
        Check.equal("wax", 0, x.wax());
        Check.equal("darkCandles", 0, x.darkCandles());
        Check.equal("bellsUnrung", 0, x.bellsUnrung());
        Check.equal("namesOnWall", 0, x.namesOnWall());
        Check.equal("nightsUntilDark", -1, x.nightsUntilDark());
        Check.equal("waxAfter", 0, x.waxAfter(200));
        Check.equal("waxWanted", 0, x.waxWanted(60));
        Check.equal("meanTrust", 0.0, x.meanTrust());
    }

    static void promise01ObjectsAreApart() {
        SailorCandles one = new SailorCandles();
        SailorCandles other = new SailorCandles();
        one.addShip(1);
        one.addSailor(0, 0, true);
        one.addWatcher();
        one.buyWax(30);
        one.sail(0);
        one.burnNights(2);
        Check.equal("other", Answers.of(new SailorCandles()), Answers.of(other));
    }

    static void promise02ShipsAreNumberedAndAtHome() {
        SailorCandles x = new SailorCandles();
        for (int ship = 0; ship < 5; ship++) {
            Check.equal("addShip", ship, x.addShip(ship % 3 + 1));
            Check.equal("ships", ship + 1, x.ships());
            Check.equal("mastsOf", ship % 3 + 1, x.mastsOf(ship));
            Check.no("isAway", x.isAway(ship));
            Check.no("isLost", x.isLost(ship));
            Check.no("isRung", x.isRung(ship));
            Check.equal("nightsOut", 0, x.nightsOut(ship));
            Check.equal("trustIn", 0, x.trustIn(ship));
        }
    }

    static void promise02WrongShips() {
        SailorCandles x = new SailorCandles();
        int[] wrong = {0, 4, -1, Integer.MIN_VALUE, Integer.MAX_VALUE};
        for (int masts : wrong) {
            Check.noArgument("addShip(" + masts + ")", x, () -> x.addShip(masts));
        }
        for (int ship = 0; ship < 5; ship++) {
            x.addShip(2);
        }
        Check.noState("a sixth ship", x, () -> x.addShip(1));
        Check.noArgument("a sixth ship with 0 masts", x, () -> x.addShip(0));
        Check.noArgument("a sixth ship with 4 masts", x, () -> x.addShip(4));
    }

    static void promise03SailorsAreNumbered() {
        SailorCandles x = new SailorCandles();
        x.addShip(1);
        x.addShip(3);
        for (int sailor = 0; sailor < 16; sailor++) {
            int ship = sailor % 2;
            int mast = ship == 0 ? 0 : sailor % 3;
            boolean voter = sailor % 4 < 2;
            Check.equal("addSailor", sailor, x.addSailor(ship, mast, voter));
            Check.equal("sailors", sailor + 1, x.sailors());
            Check.equal("shipOf", ship, x.shipOf(sailor));
            Check.equal("mastOf", mast, x.mastOf(sailor));
            Check.equal("hasVoter", voter ? 1 : 0, x.hasVoter(sailor) ? 1 : 0);
            Check.no("isGivenUp", x.isGivenUp(sailor));
            Check.equal("candleOf", 0, x.candleOf(sailor));
            Check.no("isDark", x.isDark(sailor));
        }
    }

    static void promise03WrongSailors() {
        SailorCandles x = new SailorCandles();
        Check.noIndex("no ship yet", x, () -> x.addSailor(0, 0, true));
        x.addShip(2);
        x.addShip(3);
        int[] wrongShips = {-1, 2, 5, Integer.MIN_VALUE, Integer.MAX_VALUE};
        for (int ship : wrongShips) {
            Check.noIndex("ship " + ship, x, () -> x.addSailor(ship, 0, false));
        }
        int[] wrongMasts = {-1, 2, 3, Integer.MIN_VALUE, Integer.MAX_VALUE};
        for (int mast : wrongMasts) {
            Check.noIndex("mast " + mast, x, () -> x.addSailor(0, mast, false));
        }
        Check.equal("the last mast", 0, x.addSailor(0, 1, false));
    }

    static void promise03ShipAway() {
        SailorCandles x = new SailorCandles();
        x.addShip(1);
        x.addSailor(0, 0, true);
        x.sail(0);
        Check.noState("the ship is out", x, () -> x.addSailor(0, 0, true));
        Check.noIndex("the ship is out, and has no such mast", x, () -> x.addSailor(0, 1, true));
        x.vote(0, true);
        x.burnNights(21);
        Check.yes("isLost", x.isLost(0));
        Check.noState("the ship is lost", x, () -> x.addSailor(0, 0, true));
        x.comeHome(0);
        Check.equal("the ship is home", 1, x.addSailor(0, 0, true));
    }

    static void promise03SixteenAtMost() {
        SailorCandles x = new SailorCandles();
        x.addShip(1);
        for (int sailor = 0; sailor < 16; sailor++) {
            x.addSailor(0, 0, false);
        }
        Check.noState("a seventeenth", x, () -> x.addSailor(0, 0, false));
        Check.noIndex("a seventeenth on no mast", x, () -> x.addSailor(0, 1, false));
        Check.noIndex("a seventeenth on no ship", x, () -> x.addSailor(1, 0, false));
    }

    static void promise04WatchersAreNumberedAndTrusted() {
        SailorCandles x = new SailorCandles();
        for (int watcher = 0; watcher < 4; watcher++) {
            Check.equal("addWatcher", watcher, x.addWatcher());
            Check.equal("watchers", watcher + 1, x.watchers());
            Check.equal("trustOf", 5, x.trustOf(watcher));
        }
        Check.noState("a fifth", x, () -> x.addWatcher());
    }

    static void promise05WaxIsAdded() {
        SailorCandles x = new SailorCandles();
        Check.equal("buyWax(1)", 1, x.buyWax(1));
        Check.equal("buyWax(500)", 501, x.buyWax(500));
        Check.equal("buyWax(40)", 541, x.buyWax(40));
        Check.equal("wax", 541, x.wax());
    }

    static void promise05WrongWax() {
        SailorCandles x = new SailorCandles();
        x.buyWax(7);
        int[] wrong = {0, 501, -1, Integer.MIN_VALUE, Integer.MAX_VALUE};
        for (int wax : wrong) {
            Check.noArgument("buyWax(" + wax + ")", x, () -> x.buyWax(wax));
        }
    }

    static void promise05BuyingLightsNoCandle() {
        SailorCandles x = new SailorCandles();
        x.addShip(1);
        x.addSailor(0, 0, false);
        x.sail(0);
        Check.equal("buyWax", 12, x.buyWax(12));
        Check.yes("isDark", x.isDark(0));
        Check.equal("wax", 12, x.wax());
    }
}
