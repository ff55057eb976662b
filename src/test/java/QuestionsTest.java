/** Promises 11 to 35: what ships, sailors and the chapel answer. */
final class QuestionsTest {

    private QuestionsTest() {
    }

    interface Question {
        void ask(int number);
    }

    /** Ship 0 lost, ship 1 out, ship 2 at home; sailors 0, 1 of ship 0, 2, 3 of ship 1, 4 of ship 2. */
    private static SailorCandles threeShips() {
        SailorCandles x = new SailorCandles();
        x.addShip(1);
        x.addShip(2);
        x.addShip(3);
        x.addSailor(0, 0, true);
        x.addSailor(0, 0, false);
        x.addSailor(1, 0, true);
        x.addSailor(1, 1, true);
        x.addSailor(2, 2, false);
        x.addWatcher();
        x.addWatcher();
        x.sail(0);
        x.vote(0, true);
        x.burnNights(25);
        x.buyWax(31);
        x.sail(1);
        x.burnNights(2);
        return x;
    }

    private static void wrongNumbers(String what, SailorCandles x, int count, Question question) {
        int[] wrong = {-1, count, count + 1, 16, Integer.MIN_VALUE, Integer.MAX_VALUE};
        for (int number : wrong) {
            Check.noIndex(what + "(" + number + ")", x, () -> question.ask(number));
        }
    }

    static void promise11Ships() {
        SailorCandles x = threeShips();
        Check.equal("ships", 3, x.ships());
        x.addShip(3);
        Check.equal("ships", 4, x.ships());
    }

    static void promise12MastsOf() {
        SailorCandles x = threeShips();
        for (int ship = 0; ship < 3; ship++) {
            Check.equal("mastsOf", ship + 1, x.mastsOf(ship));
        }
        wrongNumbers("mastsOf", x, 3, x::mastsOf);
    }

    static void promise13IsAway() {
        SailorCandles x = threeShips();
        Check.yes("lost", x.isAway(0));
        Check.yes("out", x.isAway(1));
        Check.no("at home", x.isAway(2));
        wrongNumbers("isAway", x, 3, x::isAway);
    }

    static void promise14IsLost() {
        SailorCandles x = threeShips();
        Check.yes("lost", x.isLost(0));
        Check.no("out", x.isLost(1));
        Check.no("at home", x.isLost(2));
        wrongNumbers("isLost", x, 3, x::isLost);
    }

    static void promise15NightsOut() {
        SailorCandles x = threeShips();
        Check.equal("lost", 21, x.nightsOut(0));
        Check.equal("out", 2, x.nightsOut(1));
        Check.equal("never out", 0, x.nightsOut(2));
        x.comeHome(1);
        x.burnNights(1);
        Check.equal("the latest time", 2, x.nightsOut(1));
        x.sail(1);
        Check.equal("out again", 0, x.nightsOut(1));
        wrongNumbers("nightsOut", x, 3, x::nightsOut);
    }

    static void promise16IsRung() {
        SailorCandles x = threeShips();
        x.sight(0, 1);
        Check.no("5", x.isRung(1));
        x.sight(1, 1);
        Check.yes("10", x.isRung(1));
        Check.no("lost", x.isRung(0));
        Check.no("at home", x.isRung(2));
        wrongNumbers("isRung", x, 3, x::isRung);
    }

    static void promise17TrustIn() {
        SailorCandles x = threeShips();
        x.sail(2);
        Check.equal("no sighting", 0, x.trustIn(1));
        x.sight(0, 1);
        Check.equal("one", 5, x.trustIn(1));
        x.sight(1, 1);
        Check.equal("two", 10, x.trustIn(1));
        x.sight(1, 2);
        Check.equal("another ship", 5, x.trustIn(2));
        x.comeHome(2);
        Check.equal("trust of now", 11, x.trustIn(1));
        wrongNumbers("trustIn", x, 3, x::trustIn);
    }

    static void promise18Voters() {
        SailorCandles x = threeShips();
        Check.equal("one of two", 1, x.voters(0));
        Check.equal("two of two", 2, x.voters(1));
        Check.equal("none of one", 0, x.voters(2));
        wrongNumbers("voters", x, 3, x::voters);
    }

    static void promise19VotesForLost() {
        SailorCandles x = threeShips();
        Check.equal("lost", 1, x.votesForLost(0));
        Check.equal("none yet", 0, x.votesForLost(1));
        x.vote(3, true);
        Check.equal("one", 1, x.votesForLost(1));
        x.comeHome(1);
        Check.equal("the latest time", 1, x.votesForLost(1));
        x.addSailor(1, 0, true);
        Check.equal("a new sailor", 1, x.votesForLost(1));
        wrongNumbers("votesForLost", x, 3, x::votesForLost);
    }

    static void promise20VotesMissing() {
        SailorCandles x = new SailorCandles();
        x.addShip(1);
        x.addShip(1);
        int[] due = {1, 1, 2, 2, 3, 3};
        for (int voters = 0; voters < due.length; voters++) {
            Check.equal("voters " + voters, due[voters], x.votesMissing(0));
            x.addSailor(0, 0, true);
            x.addSailor(1, 0, false);
        }
        Check.equal("nobody votes", 1, x.votesMissing(1));
        x.sail(0);
        int[] left = {4, 3, 2, 1, 0, 0, 0};
        for (int given = 0; given < 6; given++) {
            Check.equal("given " + given, left[given], x.votesMissing(0));
            x.vote(2 * given, true);
        }
        Check.equal("all", 0, x.votesMissing(0));
        wrongNumbers("votesMissing", x, 2, x::votesMissing);
    }

    static void promise21Sailors() {
        SailorCandles x = threeShips();
        Check.equal("sailors", 5, x.sailors());
        x.addSailor(2, 0, true);
        Check.equal("sailors", 6, x.sailors());
    }

    static void promise22ShipOf() {
        SailorCandles x = threeShips();
        int[] due = {0, 0, 1, 1, 2};
        for (int sailor = 0; sailor < due.length; sailor++) {
            Check.equal("shipOf", due[sailor], x.shipOf(sailor));
        }
        wrongNumbers("shipOf", x, 5, x::shipOf);
    }

    static void promise23MastOf() {
        SailorCandles x = threeShips();
        int[] due = {0, 0, 0, 1, 2};
        for (int sailor = 0; sailor < due.length; sailor++) {
            Check.equal("mastOf", due[sailor], x.mastOf(sailor));
        }
        wrongNumbers("mastOf", x, 5, x::mastOf);
    }

    static void promise24HasVoter() {
        SailorCandles x = threeShips();
        boolean[] due = {true, false, true, true, false};
        for (int sailor = 0; sailor < due.length; sailor++) {
            Check.yes("hasVoter", due[sailor] == x.hasVoter(sailor));
        }
        wrongNumbers("hasVoter", x, 5, x::hasVoter);
    }

    static void promise25IsGivenUp() {
        SailorCandles x = threeShips();
        Check.yes("of the lost ship", x.isGivenUp(0));
        Check.no("nobody votes", x.isGivenUp(1));
        x.vote(2, true);
        Check.yes("of the ship out", x.isGivenUp(2));
        Check.no("not by this one", x.isGivenUp(3));
        x.comeHome(1);
        Check.yes("the latest time", x.isGivenUp(2));
        x.sail(1);
        Check.no("out again", x.isGivenUp(2));
        wrongNumbers("isGivenUp", x, 5, x::isGivenUp);
    }

    static void promise26CandleOf() {
        SailorCandles x = threeShips();
        int[] due = {0, 0, 10, 8, 0};
        for (int sailor = 0; sailor < due.length; sailor++) {
            Check.equal("candleOf", due[sailor], x.candleOf(sailor));
        }
        wrongNumbers("candleOf", x, 5, x::candleOf);
    }

    static void promise27IsDark() {
        SailorCandles x = threeShips();
        Check.no("lost", x.isDark(0));
        Check.no("lit", x.isDark(3));
        Check.no("at home", x.isDark(4));
        x.burnNights(4);
        Check.yes("burned down", x.isDark(3));
        Check.no("burning", x.isDark(2));
        wrongNumbers("isDark", x, 5, x::isDark);
    }

    static void promise28Watchers() {
        SailorCandles x = threeShips();
        Check.equal("watchers", 2, x.watchers());
        x.addWatcher();
        Check.equal("watchers", 3, x.watchers());
    }

    static void promise29TrustOf() {
        SailorCandles x = threeShips();
        x.sight(1, 1);
        x.burnNights(3);
        Check.equal("trustOf(0)", 5, x.trustOf(0));
        Check.equal("trustOf(1)", 3, x.trustOf(1));
        wrongNumbers("trustOf", x, 2, x::trustOf);
    }

    static void promise30Sightings() {
        SailorCandles x = threeShips();
        x.sail(2);
        Check.equal("none", 0, x.sightings());
        x.sight(0, 1);
        x.sight(0, 2);
        x.sight(1, 1);
        Check.equal("three", 3, x.sightings());
        x.comeHome(1);
        Check.equal("of one ship they are dropped", 1, x.sightings());
        x.burnNights(3);
        Check.equal("old ones are dropped", 0, x.sightings());
    }

    static void promise31Night() {
        SailorCandles x = threeShips();
        Check.equal("night", 27, x.night());
    }

    static void promise32Wax() {
        SailorCandles x = threeShips();
        Check.equal("wax", 7, x.wax());
        x.comeHome(1);
        Check.equal("wax", 25, x.wax());
    }

    static void promise33DarkCandles() {
        SailorCandles x = threeShips();
        Check.equal("none", 0, x.darkCandles());
        x.burnNights(4);
        Check.equal("one", 1, x.darkCandles());
        x.sail(2);
        Check.equal("two", 2, x.darkCandles());
        x.burnNights(6);
        Check.equal("three", 3, x.darkCandles());
        x.comeHome(1);
        Check.equal("one", 1, x.darkCandles());
    }

    static void promise34BellsUnrung() {
        SailorCandles x = threeShips();
        x.sail(2);
        x.sight(0, 1);
        x.sight(1, 1);
        x.sight(0, 2);
        x.sight(1, 2);
        x.burnNights(2);
        Check.equal("none yet", 0, x.bellsUnrung());
        x.burnNights(1);
        Check.equal("two", 2, x.bellsUnrung());
        x.burnNights(1);
        Check.equal("a bell is un-rung once", 2, x.bellsUnrung());
    }

    static void promise35NamesOnWall() {
        SailorCandles x = threeShips();
        Check.equal("both of the lost ship", 2, x.namesOnWall());
        x.vote(2, true);
        x.vote(3, true);
        x.burnNights(19);
        Check.equal("of both lost ships", 4, x.namesOnWall());
        x.comeHome(0);
        Check.equal("of the other", 2, x.namesOnWall());
    }
}
