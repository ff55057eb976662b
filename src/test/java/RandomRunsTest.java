/** Long runs of calls, drawn by a generator of our own with fixed seeds, compared with the Model. */
final class RandomRunsTest {

    private static final int RUNS = 3000;
    /** An object is used for at most so many calls: what it answers to later ones is free. */
    private static final int MOST_CALLS = 512;
    /** No change and the questions behind it are more calls than these. */
    private static final int CALLS_OF_A_ROUND = 16;

    private final SailorCandles x = new SailorCandles();
    private final Model model = new Model();
    private final StringBuilder told = new StringBuilder();
    private long seed;
    private int calls;

    private RandomRunsTest(long seed) {
        this.seed = seed;
    }

    interface Answer {
        Object of();
    }

    static void ruleRandomRunsAnswerAsTheModel() {
        for (int run = 0; run < RUNS; run++) {
            RandomRunsTest test = new RandomRunsTest(run * 7919L + 17);
            if (run % 4 != 0) {
                test.settle();
            }
            while (test.calls + CALLS_OF_A_ROUND <= MOST_CALLS) {
                test.change();
                test.compareSome();
            }
        }
    }

    private int draw(int bound) {
        seed = seed * 6364136223846793005L + 1442695040888963407L;
        return (int) ((seed >>> 33) % bound);
    }

    /** Mostly a number that there is, now and then the next one or a wild one. */
    private int drawNumber(int count) {
        int kind = draw(40);
        if (kind == 0) {
            return -1 - draw(3);
        }
        if (kind == 1) {
            return count + draw(3);
        }
        if (kind == 2) {
            return draw(2) == 0 ? Integer.MIN_VALUE : Integer.MAX_VALUE;
        }
        return count == 0 ? 0 : draw(count);
    }

    private int drawBounded(int most) {
        int kind = draw(30);
        if (kind == 0) {
            return 0;
        }
        if (kind == 1) {
            return most + 1;
        }
        if (kind == 2) {
            return most;
        }
        return 1 + draw(most);
    }

    private void settle() {
        int ships = 1 + draw(5);
        for (int ship = 0; ship < ships; ship++) {
            int masts = 1 + draw(3);
            doSame("addShip " + masts, () -> x.addShip(masts), () -> model.addShip(masts));
        }
        int sailors = draw(17);
        for (int sailor = 0; sailor < sailors; sailor++) {
            addSailor();
        }
        int watchers = draw(5);
        for (int watcher = 0; watcher < watchers; watcher++) {
            doSame("addWatcher", x::addWatcher, model::addWatcher);
        }
    }

    private void addSailor() {
        int ship = drawNumber(model.ships.size());
        int mast = drawNumber(3);
        boolean voter = draw(3) > 0;
        doSame("addSailor " + ship + " " + mast + " " + voter,
            () -> x.addSailor(ship, mast, voter), () -> model.addSailor(ship, mast, voter));
    }

    private void change() {
        int ship = drawNumber(model.ships.size());
        int sailor = drawNumber(model.sailors.size());
        int watcher = drawNumber(model.watchers.size());
        switch (draw(20)) {
            case 0 -> {
                int masts = drawBounded(3);
                doSame("addShip " + masts, () -> x.addShip(masts), () -> model.addShip(masts));
            }
            case 1 -> addSailor();
            case 2 -> doSame("addWatcher", x::addWatcher, model::addWatcher);
            case 3, 4 -> {
                int wax = draw(2) == 0 ? drawBounded(500) : drawBounded(60);
                doSame("buyWax " + wax, () -> x.buyWax(wax), () -> model.buyWax(wax));
            }
            case 5, 6, 7 -> doSame("sail " + ship, () -> x.sail(ship), () -> model.sail(ship));
            case 8 -> doSame("comeHome " + ship, () -> x.comeHome(ship), () -> model.comeHome(ship));
            case 9, 10, 11, 12, 13 -> doSame("sight " + watcher + " " + ship,
                () -> x.sight(watcher, ship), () -> model.sight(watcher, ship));
            case 14, 15, 16 -> {
                boolean lost = draw(5) > 0;
                doSame("vote " + sailor + " " + lost, () -> x.vote(sailor, lost), () -> model.vote(sailor, lost));
            }
            case 17 -> {
                int nights = drawBounded(60);
                doSame("burnNights " + nights, () -> x.burnNights(nights), () -> model.burnNights(nights));
            }
            default -> {
                int nights = 1 + draw(4);
                doSame("burnNights " + nights, () -> x.burnNights(nights), () -> model.burnNights(nights));
            }
        }
    }

    private void compareSome() {
        same("digest", x::digest, model::digest);
        switch (draw(6)) {
            case 0 -> compareChapel();
            case 1 -> compareShip(drawNumber(model.ships.size()));
            case 2 -> compareSailor(drawNumber(model.sailors.size()));
            case 3 -> compareWatcher(drawNumber(model.watchers.size()), drawNumber(model.ships.size()));
            case 4 -> compareFuture();
            default -> {
                return;
            }
        }
        same("digest behind the questions", x::digest, model::digest);
    }

    private void compareWatcher(int watcher, int ship) {
        same("trustOf " + watcher, () -> x.trustOf(watcher), () -> model.trust(watcher));
        same("wouldRing " + watcher + " " + ship,
            () -> x.wouldRing(watcher, ship), () -> model.wouldRing(watcher, ship));
        same("nightsUntilUnrung " + ship, () -> x.nightsUntilUnrung(ship), () -> model.nightsUntilUnrung(ship));
    }

    private void compareChapel() {
        same("ships", x::ships, model.ships::size);
        same("sailors", x::sailors, model.sailors::size);
        same("watchers", x::watchers, model.watchers::size);
        same("sightings", x::sightings, model.sightings::size);
        same("night", x::night, () -> model.night);
        same("wax", x::wax, () -> model.wax);
        same("darkCandles", x::darkCandles, model::darkCandles);
        same("bellsUnrung", x::bellsUnrung, () -> model.unrung);
        same("namesOnWall", x::namesOnWall, model::namesOnWall);
        same("meanTrust", x::meanTrust, model::meanTrust);
    }

    private void compareShip(int ship) {
        same("mastsOf " + ship, () -> x.mastsOf(ship), () -> model.ship(ship).masts);
        same("isAway " + ship, () -> x.isAway(ship), () -> model.ship(ship).out || model.ship(ship).lost);
        same("isLost " + ship, () -> x.isLost(ship), () -> model.ship(ship).lost);
        same("nightsOut " + ship, () -> x.nightsOut(ship), () -> model.ship(ship).nightsOut);
        same("isRung " + ship, () -> x.isRung(ship), () -> model.ship(ship).rung);
        same("trustIn " + ship, () -> x.trustIn(ship), () -> model.trustIn(ship));
        same("voters " + ship, () -> x.voters(ship), () -> model.voters(ship));
        same("votesForLost " + ship, () -> x.votesForLost(ship), () -> model.votesForLost(ship));
        same("votesMissing " + ship, () -> x.votesMissing(ship), () -> model.votesMissing(ship));
    }

    private void compareSailor(int sailor) {
        same("shipOf " + sailor, () -> x.shipOf(sailor), () -> model.sailor(sailor).ship);
        same("mastOf " + sailor, () -> x.mastOf(sailor), () -> model.sailor(sailor).mast);
        same("hasVoter " + sailor, () -> x.hasVoter(sailor), () -> model.sailor(sailor).voter);
        same("isGivenUp " + sailor, () -> x.isGivenUp(sailor), () -> model.sailor(sailor).givenUp);
        same("candleOf " + sailor, () -> x.candleOf(sailor), () -> model.sailor(sailor).candle);
        same("isDark " + sailor, () -> x.isDark(sailor), () -> model.isDark(sailor));
    }

    private void compareFuture() {
        same("nightsUntilDark", x::nightsUntilDark, model::nightsUntilDark);
        int nights = drawBounded(200);
        same("waxAfter " + nights, () -> x.waxAfter(nights), () -> model.waxAfter(nights));
        int wanted = draw(2) == 0 ? drawBounded(60) : drawBounded(8);
        same("waxWanted " + wanted, () -> x.waxWanted(wanted), () -> model.waxWanted(wanted));
    }

    private void doSame(String call, Answer got, Answer due) {
        told.append(call).append('\n');
        same(call, got, due);
    }

    private void same(String call, Answer got, Answer due) {
        calls++;
        Object want = answerOf(due);
        Object answer = answerOf(got);
        if (!want.equals(answer)) {
            throw new AssertionError(told + call + ": due is " + want + ", answered " + answer);
        }
    }

    private static Object answerOf(Answer answer) {
        try {
            return answer.of();
        } catch (RuntimeException e) {
            return e.getClass();
        }
    }
}
