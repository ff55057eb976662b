/** Candles in a harbour's chapel for sailors who have not returned. */
public final class SailorCandles {

    private static final int MOST_SHIPS = 5;
    private static final int MOST_MASTS = 3;
    private static final int MOST_SAILORS = 16;
    private static final int MOST_WATCHERS = 4;
    private static final int MOST_WAX_BOUGHT = 500;
    private static final int MOST_NIGHTS = 60;
    private static final int MOST_NIGHTS_AHEAD = 200;

    private static final int NEW_CANDLE = 12;
    private static final int FIRST_TRUST = 5;
    private static final int MOST_TRUST = 9;
    private static final int TRUST_LOST = 2;
    private static final int TRUST_TO_RING = 6;
    private static final int NIGHTS_OF_A_SIGHTING = 3;
    private static final int NIGHTS_OF_HOPE = 20;

    private static final int AT_HOME = 0;
    private static final int OUT = 1;
    private static final int LOST = 2;

    private static final int NO_SHIP = -1;
    private static final int NO_PLACE = -1;
    private static final int NO_SIGHTING = -1;
    private static final int FIRST_DIGEST = 1949;

    private final Harbour harbour;
    private final Chapel now;
    // What would be is played here, so that a question changes nothing and makes no object.
    private final Chapel trial;

    public SailorCandles() {
        Harbour newHarbour = new Harbour();
        harbour = newHarbour;
        now = new Chapel(newHarbour);
        trial = new Chapel(newHarbour);
    }

    // ---- the harbour

    public int addShip(int masts) throws IllegalArgumentException, IllegalStateException {
        if (masts < 1 || masts > MOST_MASTS) {
            throw new IllegalArgumentException("masts are 1 to 3");
        }
        if (harbour.shipCount >= MOST_SHIPS) {
            throw new IllegalStateException("there are 5 ships");
        }
        return harbour.enterShip(masts);
    }

    public int addSailor(int ship, int mast, boolean voter) throws IndexOutOfBoundsException, IllegalStateException {
        needShip(ship);
        if (mast < 0 || mast >= at(harbour.masts, ship)) {
            throw new IndexOutOfBoundsException("no such mast");
        }
        if (now.stayOf(ship) != AT_HOME) {
            throw new IllegalStateException("the ship is away");
        }
        if (harbour.sailorCount >= MOST_SAILORS) {
            throw new IllegalStateException("there are 16 sailors");
        }
        return harbour.enterSailor(ship, mast, voter);
    }

    public int addWatcher() throws IllegalStateException {
        if (harbour.watcherCount >= MOST_WATCHERS) {
            throw new IllegalStateException("there are 4 watchers");
        }
        int watcher = harbour.enterWatcher();
        put(now.trust, watcher, FIRST_TRUST);
        return watcher;
    }

    public int buyWax(int wax) throws IllegalArgumentException {
        if (wax < 1 || wax > MOST_WAX_BOUGHT) {
            throw new IllegalArgumentException("wax is bought by 1 to 500");
        }
        now.waxLeft += wax;
        return now.waxLeft;
    }

    // ---- ships come and go

    public int sail(int ship) throws IndexOutOfBoundsException, IllegalStateException {
        needShip(ship);
        if (now.stayOf(ship) != AT_HOME) {
            throw new IllegalStateException("the ship is away");
        }
        harbour.clearVotes(ship);
        return now.sendOut(ship);
    }

    public int comeHome(int ship) throws IndexOutOfBoundsException, IllegalStateException {
        needShip(ship);
        if (now.stayOf(ship) == AT_HOME) {
            throw new IllegalStateException("the ship is at home");
        }
        now.believeWatchersOf(ship);
        now.endWaiting(ship, AT_HOME);
        return at(now.outFor, ship);
    }

    // ---- watchers and votes

    public boolean sight(int watcher, int ship) throws IndexOutOfBoundsException, IllegalStateException {
        needNewSighting(watcher, ship);
        now.enterSighting(watcher, ship);
        return is(now.rung, ship);
    }

    public int vote(int sailor, boolean lost) throws IndexOutOfBoundsException, IllegalStateException {
        needSailor(sailor);
        if (!is(harbour.voter, sailor)) {
            throw new IllegalStateException("nobody votes for this sailor");
        }
        int ship = harbour.shipWith(sailor);
        if (now.stayOf(ship) != OUT) {
            throw new IllegalStateException("the ship is not out");
        }
        mark(harbour.givenUp, sailor, lost);
        return harbour.votesAgainst(ship);
    }

    // ---- nights

    public int burnNights(int nights) throws IllegalArgumentException {
        needNights(nights, MOST_NIGHTS);
        return now.passNights(nights);
    }

    // ---- ships

    public int ships() {
        return harbour.shipCount;
    }

    public int mastsOf(int ship) throws IndexOutOfBoundsException {
        needShip(ship);
        return at(harbour.masts, ship);
    }

    public boolean isAway(int ship) throws IndexOutOfBoundsException {
        needShip(ship);
        return now.stayOf(ship) != AT_HOME;
    }

    public boolean isLost(int ship) throws IndexOutOfBoundsException {
        needShip(ship);
        return now.stayOf(ship) == LOST;
    }

    public int nightsOut(int ship) throws IndexOutOfBoundsException {
        needShip(ship);
        return at(now.outFor, ship);
    }

    public boolean isRung(int ship) throws IndexOutOfBoundsException {
        needShip(ship);
        return is(now.rung, ship);
    }

    public int trustIn(int ship) throws IndexOutOfBoundsException {
        needShip(ship);
        return now.trustSum(ship);
    }

    public int voters(int ship) throws IndexOutOfBoundsException {
        needShip(ship);
        return harbour.votersFor(ship);
    }

    public int votesForLost(int ship) throws IndexOutOfBoundsException {
        needShip(ship);
        return harbour.votesAgainst(ship);
    }

    public int votesMissing(int ship) throws IndexOutOfBoundsException {
        needShip(ship);
        return harbour.votesToLose(ship);
    }

    // ---- sailors

    public int sailors() {
        return harbour.sailorCount;
    }

    public int shipOf(int sailor) throws IndexOutOfBoundsException {
        needSailor(sailor);
        return harbour.shipWith(sailor);
    }

    public int mastOf(int sailor) throws IndexOutOfBoundsException {
        needSailor(sailor);
        return at(harbour.mast, sailor);
    }

    public boolean hasVoter(int sailor) throws IndexOutOfBoundsException {
        needSailor(sailor);
        return is(harbour.voter, sailor);
    }

    public boolean isGivenUp(int sailor) throws IndexOutOfBoundsException {
        needSailor(sailor);
        return is(harbour.givenUp, sailor);
    }

    public int candleOf(int sailor) throws IndexOutOfBoundsException {
        needSailor(sailor);
        return at(now.candle, sailor);
    }

    public boolean isDark(int sailor) throws IndexOutOfBoundsException {
        needSailor(sailor);
        return now.darkFor(sailor);
    }

    // ---- the chapel

    public int watchers() {
        return harbour.watcherCount;
    }

    public int trustOf(int watcher) throws IndexOutOfBoundsException {
        needWatcher(watcher);
        return at(now.trust, watcher);
    }

    public int sightings() {
        return now.sightingCount();
    }

    public int night() {
        return now.nightsPassed;
    }

    public int wax() {
        return now.waxLeft;
    }

    public int darkCandles() {
        return now.darkCount();
    }

    public int bellsUnrung() {
        return now.unringings;
    }

    public int namesOnWall() {
        return now.lostSailors();
    }

    // ---- what would be

    public boolean wouldRing(int watcher, int ship) throws IndexOutOfBoundsException, IllegalStateException {
        needNewSighting(watcher, ship);
        return is(now.rung, ship) || now.trustSum(ship) + at(now.trust, watcher) >= TRUST_TO_RING;
    }

    public int nightsUntilUnrung(int ship) throws IndexOutOfBoundsException, IllegalStateException {
        needShip(ship);
        if (!is(now.rung, ship)) {
            throw new IllegalStateException("the bell is not rung");
        }
        trial.copyFrom(now);
        // No sighting of now is left behind that many nights, and without one no bell stays rung.
        for (int nights = 1; nights < NIGHTS_OF_A_SIGHTING; nights++) {
            trial.passNight();
            if (!is(trial.rung, ship)) {
                return nights;
            }
        }
        return NIGHTS_OF_A_SIGHTING;
    }

    public int nightsUntilDark() {
        trial.copyFrom(now);
        for (int nights = 0; nights < MOST_NIGHTS_AHEAD; nights++) {
            if (trial.darkCount() > 0) {
                return nights;
            }
            trial.passNight();
        }
        return trial.darkCount() > 0 ? MOST_NIGHTS_AHEAD : -1;
    }

    public int waxAfter(int nights) throws IllegalArgumentException {
        needNights(nights, MOST_NIGHTS_AHEAD);
        trial.copyFrom(now);
        trial.passNights(nights);
        return trial.waxLeft;
    }

    public int waxWanted(int nights) throws IllegalArgumentException {
        needNights(nights, MOST_NIGHTS);
        // Halving is right, because more wax than enough is enough too: bells and losses do not
        // depend on wax, and where no candle gets dark, wax makes a difference only to candles of
        // ships that are lost in the same night, whose wax is given back in it.
        int wanted = 0;
        for (int step = 256; step > 0; step /= 2) {
            if (!wouldStayLit(wanted + step - 1, nights)) {
                wanted += step;
            }
        }
        return wanted > MOST_WAX_BOUGHT ? -1 : wanted;
    }

    public double meanTrust() {
        if (harbour.watcherCount <= 0) {
            return 0.0;
        }
        int sum = 0;
        for (int watcher = 0; watcher < harbour.watcherCount; watcher++) {
            sum += at(now.trust, watcher);
        }
        return (double) sum / (double) harbour.watcherCount;
    }

    public long digest() {
        long d = FIRST_DIGEST;
        d = mix(d, harbour.shipCount);
        d = mix(d, harbour.sailorCount);
        d = mix(d, harbour.watcherCount);
        d = mix(d, now.sightingCount());
        d = mix(d, now.nightsPassed);
        d = mix(d, now.waxLeft);
        d = mix(d, now.darkCount());
        d = mix(d, now.unringings);
        d = mix(d, now.lostSailors());
        for (int ship = 0; ship < harbour.shipCount; ship++) {
            d = mixShip(d, ship);
        }
        for (int sailor = 0; sailor < harbour.sailorCount; sailor++) {
            d = mixSailor(d, sailor);
        }
        for (int watcher = 0; watcher < harbour.watcherCount; watcher++) {
            d = mix(d, at(now.trust, watcher));
        }
        return d;
    }

    private long mixShip(long start, int ship) {
        long d = mix(start, at(harbour.masts, ship));
        d = mix(d, one(now.stayOf(ship) != AT_HOME));
        d = mix(d, one(now.stayOf(ship) == LOST));
        d = mix(d, at(now.outFor, ship));
        d = mix(d, one(is(now.rung, ship)));
        d = mix(d, now.trustSum(ship));
        d = mix(d, harbour.votersFor(ship));
        return mix(d, harbour.votesAgainst(ship));
    }

    private long mixSailor(long start, int sailor) {
        long d = mix(start, harbour.shipWith(sailor));
        d = mix(d, at(harbour.mast, sailor));
        d = mix(d, one(is(harbour.voter, sailor)));
        d = mix(d, one(is(harbour.givenUp, sailor)));
        return mix(d, at(now.candle, sailor));
    }

    private static long mix(long d, int x) {
        return d * 31 + x;
    }

    private static int one(boolean so) {
        return so ? 1 : 0;
    }

    private boolean wouldStayLit(int bought, int nights) {
        trial.copyFrom(now);
        trial.waxLeft += bought;
        for (int night = 0; night < nights; night++) {
            trial.passNight();
            if (trial.darkCount() > 0) {
                return false;
            }
        }
        return true;
    }

    private void needShip(int ship) {
        if (ship < 0 || ship >= harbour.shipCount) {
            throw new IndexOutOfBoundsException("no such ship");
        }
    }

    private void needSailor(int sailor) {
        if (sailor < 0 || sailor >= harbour.sailorCount) {
            throw new IndexOutOfBoundsException("no such sailor");
        }
    }

    private void needWatcher(int watcher) {
        if (watcher < 0 || watcher >= harbour.watcherCount) {
            throw new IndexOutOfBoundsException("no such watcher");
        }
    }

    private void needNewSighting(int watcher, int ship) {
        needWatcher(watcher);
        needShip(ship);
        if (now.stayOf(ship) != OUT) {
            throw new IllegalStateException("the ship is not out");
        }
        if (now.hasSighting(watcher, ship)) {
            throw new IllegalStateException("this watcher has sighted the ship");
        }
    }

    private static void needNights(int nights, int most) {
        if (nights < 1 || nights > most) {
            throw new IllegalArgumentException("nights are not in their bounds");
        }
    }

    private static int at(int[] row, int index) {
        return index >= 0 && index < row.length ? row[index] : 0;
    }

    private static boolean is(boolean[] row, int index) {
        return index >= 0 && index < row.length && row[index];
    }

    private static void put(int[] row, int index, int value) {
        if (index >= 0 && index < row.length) {
            row[index] = value;
        }
    }

    private static void mark(boolean[] row, int index, boolean so) {
        if (index >= 0 && index < row.length) {
            row[index] = so;
        }
    }

    private static void copyRow(int[] from, int[] to) {
        for (int i = 0; i < from.length && i < to.length; i++) {
            to[i] = from[i];
        }
    }

    private static void copyMarks(boolean[] from, boolean[] to) {
        for (int i = 0; i < from.length && i < to.length; i++) {
            to[i] = from[i];
        }
    }

    /** Who there is, and who has given a ship up: what no night changes. */
    private static final class Harbour {
        private int shipCount;
        private int sailorCount;
        private int watcherCount;
        private final int[] masts = new int[MOST_SHIPS];
        private final int[] ship = new int[MOST_SAILORS];
        private final int[] mast = new int[MOST_SAILORS];
        private final boolean[] voter = new boolean[MOST_SAILORS];
        private final boolean[] givenUp = new boolean[MOST_SAILORS];

        Harbour() {
            for (int sailor = 0; sailor < ship.length; sailor++) {
                ship[sailor] = NO_SHIP;
            }
        }

        int enterShip(int newMasts) {
            int number = shipCount;
            put(masts, number, newMasts);
            shipCount++;
            return number;
        }

        int enterSailor(int newShip, int newMast, boolean newVoter) {
            int number = sailorCount;
            put(ship, number, newShip);
            put(mast, number, newMast);
            mark(voter, number, newVoter);
            sailorCount++;
            return number;
        }

        int enterWatcher() {
            int number = watcherCount;
            watcherCount++;
            return number;
        }

        int shipWith(int sailor) {
            return sailor >= 0 && sailor < ship.length ? ship[sailor] : NO_SHIP;
        }

        void clearVotes(int ofShip) {
            for (int sailor = 0; sailor < ship.length && sailor < givenUp.length; sailor++) {
                if (ship[sailor] == ofShip) {
                    givenUp[sailor] = false;
                }
            }
        }

        int votersFor(int ofShip) {
            return countOfShip(voter, ofShip);
        }

        int votesAgainst(int ofShip) {
            return countOfShip(givenUp, ofShip);
        }

        int votesToLose(int ofShip) {
            int majority = votersFor(ofShip) / 2 + 1;
            return Math.max(0, majority - votesAgainst(ofShip));
        }

        private int countOfShip(boolean[] marks, int ofShip) {
            int count = 0;
            for (int sailor = 0; sailor < ship.length && sailor < marks.length; sailor++) {
                if (ship[sailor] == ofShip && marks[sailor]) {
                    count++;
                }
            }
            return count;
        }
    }

    /** What ships and nights change, of now or of a trial. */
    private static final class Chapel {
        private final Harbour harbour;
        private final int[] stay = new int[MOST_SHIPS];
        private final int[] outFor = new int[MOST_SHIPS];
        private final boolean[] rung = new boolean[MOST_SHIPS];
        private final int[] candle = new int[MOST_SAILORS];
        private final int[] trust = new int[MOST_WATCHERS];
        // A watcher has at most one sighting of a ship, so each pair has one place for its age.
        private final int[] sightingAge = new int[MOST_WATCHERS * MOST_SHIPS];
        private int nightsPassed;
        private int waxLeft;
        private int unringings;

        Chapel(Harbour ofHarbour) {
            harbour = ofHarbour;
            for (int place = 0; place < sightingAge.length; place++) {
                sightingAge[place] = NO_SIGHTING;
            }
        }

        void copyFrom(Chapel other) {
            copyRow(other.stay, stay);
            copyRow(other.outFor, outFor);
            copyMarks(other.rung, rung);
            copyRow(other.candle, candle);
            copyRow(other.trust, trust);
            copyRow(other.sightingAge, sightingAge);
            nightsPassed = other.nightsPassed;
            waxLeft = other.waxLeft;
            unringings = other.unringings;
        }

        // ---- ships

        int stayOf(int ship) {
            return at(stay, ship);
        }

        int sendOut(int ship) {
            put(stay, ship, OUT);
            put(outFor, ship, 0);
            int lit = 0;
            for (int sailor = 0; sailor < MOST_SAILORS; sailor++) {
                if (harbour.shipWith(sailor) == ship && lightCandle(sailor)) {
                    lit++;
                }
            }
            return lit;
        }

        void endWaiting(int ship, int newStay) {
            put(stay, ship, newStay);
            mark(rung, ship, false);
            for (int watcher = 0; watcher < MOST_WATCHERS; watcher++) {
                put(sightingAge, placeOf(watcher, ship), NO_SIGHTING);
            }
            for (int sailor = 0; sailor < MOST_SAILORS; sailor++) {
                if (harbour.shipWith(sailor) == ship) {
                    waxLeft += at(candle, sailor);
                    put(candle, sailor, 0);
                }
            }
        }

        int lostSailors() {
            int count = 0;
            for (int sailor = 0; sailor < MOST_SAILORS; sailor++) {
                if (stayOf(harbour.shipWith(sailor)) == LOST) {
                    count++;
                }
            }
            return count;
        }

        // ---- sightings and bells

        boolean hasSighting(int watcher, int ship) {
            int place = placeOf(watcher, ship);
            return place >= 0 && place < sightingAge.length && sightingAge[place] != NO_SIGHTING;
        }

        void enterSighting(int watcher, int ship) {
            put(sightingAge, placeOf(watcher, ship), 0);
            if (trustSum(ship) >= TRUST_TO_RING) {
                mark(rung, ship, true);
            }
        }

        int sightingCount() {
            int count = 0;
            for (int place = 0; place < sightingAge.length; place++) {
                if (sightingAge[place] != NO_SIGHTING) {
                    count++;
                }
            }
            return count;
        }

        int trustSum(int ship) {
            int sum = 0;
            for (int watcher = 0; watcher < MOST_WATCHERS; watcher++) {
                if (hasSighting(watcher, ship)) {
                    sum += at(trust, watcher);
                }
            }
            return sum;
        }

        void believeWatchersOf(int ship) {
            for (int watcher = 0; watcher < MOST_WATCHERS; watcher++) {
                if (hasSighting(watcher, ship)) {
                    put(trust, watcher, Math.min(MOST_TRUST, at(trust, watcher) + 1));
                }
            }
        }

        private static int placeOf(int watcher, int ship) {
            if (watcher < 0 || watcher >= MOST_WATCHERS || ship < 0 || ship >= MOST_SHIPS) {
                return NO_PLACE;
            }
            return watcher * MOST_SHIPS + ship;
        }

        private static int watcherAt(int place) {
            return place / MOST_SHIPS;
        }

        // ---- candles

        boolean darkFor(int sailor) {
            return stayOf(harbour.shipWith(sailor)) == OUT && at(candle, sailor) == 0;
        }

        int darkCount() {
            int count = 0;
            for (int sailor = 0; sailor < MOST_SAILORS; sailor++) {
                if (darkFor(sailor)) {
                    count++;
                }
            }
            return count;
        }

        private boolean lightCandle(int sailor) {
            if (waxLeft < NEW_CANDLE) {
                return false;
            }
            waxLeft -= NEW_CANDLE;
            put(candle, sailor, NEW_CANDLE);
            return true;
        }

        // ---- nights

        int passNights(int nights) {
            int lit = 0;
            for (int night = 0; night < nights; night++) {
                lit += passNight();
            }
            return lit;
        }

        int passNight() {
            ageSightings();
            unringBells();
            int lit = burnCandles();
            countNightOut();
            nightsPassed++;
            return lit;
        }

        private void ageSightings() {
            for (int place = 0; place < sightingAge.length; place++) {
                if (sightingAge[place] != NO_SIGHTING) {
                    sightingAge[place]++;
                    if (sightingAge[place] >= NIGHTS_OF_A_SIGHTING) {
                        sightingAge[place] = NO_SIGHTING;
                        doubt(watcherAt(place));
                    }
                }
            }
        }

        private void doubt(int watcher) {
            put(trust, watcher, Math.max(0, at(trust, watcher) - TRUST_LOST));
        }

        private void unringBells() {
            for (int ship = 0; ship < MOST_SHIPS; ship++) {
                if (is(rung, ship) && trustSum(ship) < TRUST_TO_RING) {
                    mark(rung, ship, false);
                    unringings++;
                }
            }
        }

        private int burnCandles() {
            int lit = 0;
            for (int sailor = 0; sailor < MOST_SAILORS; sailor++) {
                int ship = harbour.shipWith(sailor);
                if (stayOf(ship) == OUT && !is(rung, ship)) {
                    burnCandle(sailor);
                    if (at(candle, sailor) == 0 && lightCandle(sailor)) {
                        lit++;
                    }
                }
            }
            return lit;
        }

        private void burnCandle(int sailor) {
            int burnt = 1 + at(harbour.mast, sailor);
            put(candle, sailor, Math.max(0, at(candle, sailor) - burnt));
        }

        private void countNightOut() {
            for (int ship = 0; ship < MOST_SHIPS; ship++) {
                if (stayOf(ship) == OUT) {
                    int nights = at(outFor, ship) + 1;
                    put(outFor, ship, nights);
                    if (nights > NIGHTS_OF_HOPE && harbour.votesToLose(ship) == 0) {
                        endWaiting(ship, LOST);
                    }
                }
            }
        }
    }
}
