/** Promises 6 to 9: ships come and go, watchers and votes. */
final class VoyageTest {

    private VoyageTest() {
    }

    /** Two ships of 3 masts, two sailors each (0, 1 of ship 0; 2, 3 of ship 1), all with voters. */
    private static SailorCandles twoShips(int wax, int watchers) {
        SailorCandles x = new SailorCandles();
        x.addShip(3);
        x.addShip(3);
        for (int sailor = 0; sailor < 4; sailor++) {
            x.addSailor(sailor / 2, sailor % 2, true);
        }
        for (int watcher = 0; watcher < watchers; watcher++) {
            x.addWatcher();
        }
        if (wax > 0) {
            x.buyWax(wax);
        }
        return x;
    }

    static void promise06SailingLightsCandlesByNumbers() {
        SailorCandles x = twoShips(35, 0);
        Check.equal("sail(1)", 2, x.sail(1));
        Check.equal("wax", 11, x.wax());
        Check.equal("candleOf(2)", 12, x.candleOf(2));
        Check.equal("candleOf(3)", 12, x.candleOf(3));
        Check.equal("candleOf(0)", 0, x.candleOf(0));
        Check.yes("isAway(1)", x.isAway(1));
        Check.no("isAway(0)", x.isAway(0));
        Check.equal("sail(0)", 0, x.sail(0));
        Check.equal("wax is left", 11, x.wax());
        Check.equal("darkCandles", 2, x.darkCandles());
    }

    static void promise06WaxForTheFirstOnly() {
        SailorCandles x = twoShips(12, 0);
        Check.equal("sail(0)", 1, x.sail(0));
        Check.equal("wax", 0, x.wax());
        Check.equal("candleOf(0)", 12, x.candleOf(0));
        Check.equal("candleOf(1)", 0, x.candleOf(1));
        Check.yes("isDark(1)", x.isDark(1));
    }

    static void promise06ShipWithoutSailors() {
        SailorCandles x = new SailorCandles();
        x.addShip(1);
        x.buyWax(100);
        Check.equal("sail", 0, x.sail(0));
        Check.equal("wax", 100, x.wax());
    }

    static void promise06VotesAndNightsStartAnew() {
        SailorCandles x = twoShips(48, 0);
        x.sail(0);
        x.sail(1);
        x.vote(0, true);
        x.vote(2, true);
        x.burnNights(3);
        x.comeHome(0);
        Check.yes("isGivenUp(0) stays", x.isGivenUp(0));
        Check.equal("nightsOut(0) stays", 3, x.nightsOut(0));
        x.sail(0);
        Check.no("isGivenUp(0)", x.isGivenUp(0));
        Check.equal("votesForLost(0)", 0, x.votesForLost(0));
        Check.equal("nightsOut(0)", 0, x.nightsOut(0));
        Check.yes("isGivenUp(2) is of the other ship", x.isGivenUp(2));
        Check.equal("nightsOut(1)", 3, x.nightsOut(1));
    }

    static void promise06WrongSailing() {
        SailorCandles x = twoShips(100, 0);
        int[] wrong = {-1, 2, 5, Integer.MIN_VALUE, Integer.MAX_VALUE};
        for (int ship : wrong) {
            Check.noIndex("sail(" + ship + ")", x, () -> x.sail(ship));
        }
        x.sail(0);
        Check.noState("it is out", x, () -> x.sail(0));
        x.vote(0, true);
        x.vote(1, true);
        x.burnNights(21);
        Check.yes("isLost", x.isLost(0));
        Check.noState("it is lost", x, () -> x.sail(0));
    }

    static void promise07HomeGivesWaxBack() {
        SailorCandles x = twoShips(50, 0);
        x.sail(0);
        x.sail(1);
        x.burnNights(4);
        Check.equal("candleOf(0)", 8, x.candleOf(0));
        Check.equal("candleOf(1)", 4, x.candleOf(1));
        Check.equal("comeHome", 4, x.comeHome(0));
        Check.equal("wax", 2 + 8 + 4, x.wax());
        Check.equal("candleOf(0)", 0, x.candleOf(0));
        Check.equal("candleOf(1)", 0, x.candleOf(1));
        Check.equal("candleOf(2)", 8, x.candleOf(2));
        Check.no("isAway", x.isAway(0));
        Check.no("isDark", x.isDark(0));
        Check.equal("nightsOut", 4, x.nightsOut(0));
        x.burnNights(1);
        Check.equal("nightsOut stays at home", 4, x.nightsOut(0));
    }

    static void promise07HomeMakesWatchersTrusted() {
        SailorCandles x = twoShips(48, 3);
        x.sail(0);
        x.sail(1);
        x.sight(0, 0);
        x.sight(1, 0);
        x.sight(1, 1);
        Check.yes("isRung", x.isRung(0));
        x.comeHome(0);
        Check.equal("trustOf(0)", 6, x.trustOf(0));
        Check.equal("trustOf(1)", 6, x.trustOf(1));
        Check.equal("trustOf(2)", 5, x.trustOf(2));
        Check.equal("sightings", 1, x.sightings());
        Check.equal("trustIn(0)", 0, x.trustIn(0));
        Check.equal("trustIn(1)", 6, x.trustIn(1));
        Check.no("isRung(0)", x.isRung(0));
        Check.no("more trust alone rings no bell", x.isRung(1));
        Check.equal("bellsUnrung", 0, x.bellsUnrung());
    }

    static void promise07TrustIsNineAtMost() {
        SailorCandles x = twoShips(0, 1);
        int[] due = {6, 7, 8, 9, 9, 9};
        for (int trust : due) {
            x.sail(0);
            x.sight(0, 0);
            x.comeHome(0);
            Check.equal("trustOf", trust, x.trustOf(0));
        }
    }

    static void promise07HomeFromLost() {
        SailorCandles x = twoShips(100, 0);
        x.sail(0);
        x.vote(0, true);
        x.vote(1, true);
        x.burnNights(30);
        Check.yes("isLost", x.isLost(0));
        int wax = x.wax();
        Check.equal("comeHome", 21, x.comeHome(0));
        Check.no("isLost", x.isLost(0));
        Check.no("isAway", x.isAway(0));
        Check.equal("wax", wax, x.wax());
        Check.equal("namesOnWall", 0, x.namesOnWall());
        Check.yes("isGivenUp stays", x.isGivenUp(0));
    }

    static void promise07WrongComing() {
        SailorCandles x = twoShips(30, 0);
        int[] wrong = {-1, 2, 5, Integer.MIN_VALUE, Integer.MAX_VALUE};
        for (int ship : wrong) {
            Check.noIndex("comeHome(" + ship + ")", x, () -> x.comeHome(ship));
        }
        Check.noState("it is at home", x, () -> x.comeHome(0));
        x.sail(0);
        x.comeHome(0);
        Check.noState("it is at home again", x, () -> x.comeHome(0));
    }

    static void promise08SixRings() {
        SailorCandles x = twoShips(48, 4);
        x.sail(0);
        x.sail(1);
        Check.no("5 does not ring", x.sight(0, 0));
        Check.equal("trustIn", 5, x.trustIn(0));
        Check.no("isRung", x.isRung(0));
        Check.yes("10 rings", x.sight(1, 0));
        Check.equal("trustIn", 10, x.trustIn(0));
        Check.yes("isRung", x.isRung(0));
        Check.no("isRung of the other", x.isRung(1));
        Check.equal("sightings", 2, x.sightings());
        x.comeHome(0);
        Check.yes("6 rings", x.sight(0, 1));
        Check.yes("rung already", x.sight(3, 1));
    }

    static void promise08FalseSightingsLoseTheBell() {
        SailorCandles x = twoShips(48, 4);
        x.sail(0);
        for (int watcher = 0; watcher < 4; watcher++) {
            x.sight(watcher, 0);
        }
        x.burnNights(3);
        Check.equal("trustOf", 3, x.trustOf(0));
        Check.no("3", x.sight(0, 0));
        Check.yes("3 and 3", x.sight(1, 0));
        x.burnNights(3);
        Check.equal("trustOf(0)", 1, x.trustOf(0));
        Check.no("1", x.sight(0, 0));
        Check.no("1 and 1", x.sight(1, 0));
        Check.no("1, 1 and 3", x.sight(2, 0));
        Check.yes("1, 1, 3 and 3", x.sight(3, 0));
    }

    static void promise08WrongSightings() {
        SailorCandles x = twoShips(48, 2);
        x.sail(0);
        int[] wrong = {-1, 2, 5, Integer.MIN_VALUE, Integer.MAX_VALUE};
        for (int number : wrong) {
            Check.noIndex("watcher " + number, x, () -> x.sight(number, 0));
            Check.noIndex("ship " + number, x, () -> x.sight(0, number));
        }
        Check.noIndex("no watcher, ship at home", x, () -> x.sight(2, 1));
        Check.noState("ship at home", x, () -> x.sight(0, 1));
        x.sight(0, 0);
        Check.noState("sighted already", x, () -> x.sight(0, 0));
        x.burnNights(2);
        Check.noState("sighted two nights ago", x, () -> x.sight(0, 0));
        x.burnNights(1);
        Check.no("that one is dropped", x.sight(0, 0));
        x.vote(0, true);
        x.vote(1, true);
        x.burnNights(21);
        Check.yes("isLost", x.isLost(0));
        Check.noState("ship is lost", x, () -> x.sight(0, 0));
    }

    static void promise09VotesAreCounted() {
        SailorCandles x = twoShips(48, 0);
        x.sail(0);
        x.sail(1);
        Check.equal("vote(1, true)", 1, x.vote(1, true));
        Check.equal("the same again", 1, x.vote(1, true));
        Check.equal("vote(0, true)", 2, x.vote(0, true));
        Check.equal("of the other ship", 1, x.vote(3, true));
        Check.equal("vote(1, false)", 1, x.vote(1, false));
        Check.equal("the same again", 1, x.vote(1, false));
        Check.yes("isGivenUp(0)", x.isGivenUp(0));
        Check.no("isGivenUp(1)", x.isGivenUp(1));
    }

    static void promise09AVoteLosesNoShipByDay() {
        SailorCandles x = twoShips(48, 0);
        x.sail(0);
        x.burnNights(40);
        x.vote(0, true);
        x.vote(1, true);
        Check.no("not yet", x.isLost(0));
        x.burnNights(1);
        Check.yes("behind the night", x.isLost(0));
    }

    static void promise09WrongVotes() {
        SailorCandles x = twoShips(48, 0);
        x.addSailor(0, 2, false);
        int[] wrong = {-1, 5, 16, Integer.MIN_VALUE, Integer.MAX_VALUE};
        for (int sailor : wrong) {
            Check.noIndex("vote(" + sailor + ")", x, () -> x.vote(sailor, true));
        }
        Check.noState("the ship is at home", x, () -> x.vote(0, true));
        Check.noState("at home, not lost", x, () -> x.vote(0, false));
        x.sail(0);
        Check.noState("nobody votes", x, () -> x.vote(4, true));
        Check.noState("nobody votes, not lost", x, () -> x.vote(4, false));
        x.vote(0, true);
        x.vote(1, true);
        x.burnNights(21);
        Check.yes("isLost", x.isLost(0));
        Check.noState("the ship is lost", x, () -> x.vote(0, false));
        x.comeHome(0);
        Check.noState("the ship is home again", x, () -> x.vote(0, false));
    }
}
