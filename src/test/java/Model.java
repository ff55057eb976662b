import java.util.ArrayList;
import java.util.Iterator;
import java.util.List;

/**
 * The document told a second time, by other means than SailorCandles: objects in lists, and copies of
 * the whole for what would be. Slow, and only for the tests to compare with.
 */
final class Model {

    static final class Ship {
        int masts;
        boolean out;
        boolean lost;
        boolean rung;
        int nightsOut;
    }

    static final class Sailor {
        int ship;
        int mast;
        boolean voter;
        boolean givenUp;
        int candle;
    }

    static final class Sighting {
        int watcher;
        int ship;
        int age;
    }

    final List<Ship> ships = new ArrayList<>();
    final List<Sailor> sailors = new ArrayList<>();
    final List<Integer> watchers = new ArrayList<>();
    final List<Sighting> sightings = new ArrayList<>();
    int night;
    int wax;
    int unrung;

    Model copy() {
        Model other = new Model();
        for (Ship ship : ships) {
            Ship s = new Ship();
            s.masts = ship.masts;
            s.out = ship.out;
            s.lost = ship.lost;
            s.rung = ship.rung;
            s.nightsOut = ship.nightsOut;
            other.ships.add(s);
        }
        for (Sailor sailor : sailors) {
            Sailor s = new Sailor();
            s.ship = sailor.ship;
            s.mast = sailor.mast;
            s.voter = sailor.voter;
            s.givenUp = sailor.givenUp;
            s.candle = sailor.candle;
            other.sailors.add(s);
        }
        other.watchers.addAll(watchers);
        for (Sighting sighting : sightings) {
            Sighting s = new Sighting();
            s.watcher = sighting.watcher;
            s.ship = sighting.ship;
            s.age = sighting.age;
            other.sightings.add(s);
        }
        other.night = night;
        other.wax = wax;
        other.unrung = unrung;
        return other;
    }

    Ship ship(int number) {
        if (number < 0 || number >= ships.size()) {
            throw new IndexOutOfBoundsException();
        }
        return ships.get(number);
    }

    Sailor sailor(int number) {
        if (number < 0 || number >= sailors.size()) {
            throw new IndexOutOfBoundsException();
        }
        return sailors.get(number);
    }

    int trust(int watcher) {
        if (watcher < 0 || watcher >= watchers.size()) {
            throw new IndexOutOfBoundsException();
        }
        return watchers.get(watcher);
    }

    private static void need(boolean right) {
        if (!right) {
            throw new IllegalStateException();
        }
    }

    private static void needNumber(int number, int most) {
        if (number < 1 || number > most) {
            throw new IllegalArgumentException();
        }
    }

    int addShip(int masts) {
        needNumber(masts, 3);
        need(ships.size() < 5);
        Ship ship = new Ship();
        ship.masts = masts;
        ships.add(ship);
        return ships.size() - 1;
    }

    int addSailor(int ship, int mast, boolean voter) {
        if (mast < 0 || mast >= ship(ship).masts) {
            throw new IndexOutOfBoundsException();
        }
        need(!ship(ship).out && !ship(ship).lost && sailors.size() < 16);
        Sailor sailor = new Sailor();
        sailor.ship = ship;
        sailor.mast = mast;
        sailor.voter = voter;
        sailors.add(sailor);
        return sailors.size() - 1;
    }

    int addWatcher() {
        need(watchers.size() < 4);
        watchers.add(5);
        return watchers.size() - 1;
    }

    int buyWax(int more) {
        needNumber(more, 500);
        wax += more;
        return wax;
    }

    int sail(int number) {
        Ship ship = ship(number);
        need(!ship.out && !ship.lost);
        ship.out = true;
        ship.nightsOut = 0;
        int candles = 0;
        for (Sailor sailor : sailors) {
            if (sailor.ship == number) {
                sailor.givenUp = false;
                if (wax >= 12) {
                    wax -= 12;
                    sailor.candle = 12;
                    candles++;
                }
            }
        }
        return candles;
    }

    private void meltCandles(int ship) {
        for (Sailor sailor : sailors) {
            if (sailor.ship == ship) {
                wax += sailor.candle;
                sailor.candle = 0;
            }
        }
    }

    int comeHome(int number) {
        Ship ship = ship(number);
        need(ship.out || ship.lost);
        for (Iterator<Sighting> all = sightings.iterator(); all.hasNext();) {
            Sighting sighting = all.next();
            if (sighting.ship == number) {
                int trust = watchers.get(sighting.watcher);
                watchers.set(sighting.watcher, trust == 9 ? 9 : trust + 1);
                all.remove();
            }
        }
        meltCandles(number);
        ship.rung = false;
        ship.out = false;
        ship.lost = false;
        return ship.nightsOut;
    }

    private void needSightable(int watcher, int ship) {
        trust(watcher);
        ship(ship);
        need(ship(ship).out);
        for (Sighting sighting : sightings) {
            need(sighting.watcher != watcher || sighting.ship != ship);
        }
    }

    boolean sight(int watcher, int ship) {
        needSightable(watcher, ship);
        Sighting sighting = new Sighting();
        sighting.watcher = watcher;
        sighting.ship = ship;
        sightings.add(sighting);
        if (trustIn(ship) >= 6) {
            ship(ship).rung = true;
        }
        return ship(ship).rung;
    }

    int vote(int number, boolean lost) {
        Sailor sailor = sailor(number);
        need(sailor.voter && ship(sailor.ship).out);
        sailor.givenUp = lost;
        return votesForLost(sailor.ship);
    }

    int burnNights(int nights) {
        needNumber(nights, 60);
        int taken = 0;
        for (int i = 0; i < nights; i++) {
            taken += burn();
        }
        return taken;
    }

    int burn() {
        for (Sighting sighting : sightings) {
            sighting.age++;
            if (sighting.age == 3) {
                int trust = watchers.get(sighting.watcher);
                watchers.set(sighting.watcher, trust < 2 ? 0 : trust - 2);
            }
        }
        sightings.removeIf(sighting -> sighting.age == 3);
        for (int number = 0; number < ships.size(); number++) {
            if (ships.get(number).rung && trustIn(number) < 6) {
                ships.get(number).rung = false;
                unrung++;
            }
        }
        int taken = 0;
        for (Sailor sailor : sailors) {
            Ship ship = ships.get(sailor.ship);
            if (ship.out && !ship.rung) {
                sailor.candle -= 1 + sailor.mast;
                if (sailor.candle <= 0) {
                    sailor.candle = 0;
                    if (wax >= 12) {
                        wax -= 12;
                        sailor.candle = 12;
                        taken++;
                    }
                }
            }
        }
        for (int number = 0; number < ships.size(); number++) {
            endNight(number);
        }
        night++;
        return taken;
    }

    private void endNight(int number) {
        Ship ship = ships.get(number);
        if (!ship.out) {
            return;
        }
        ship.nightsOut++;
        if (ship.nightsOut > 20 && 2 * votesForLost(number) > voters(number)) {
            ship.out = false;
            ship.lost = true;
            ship.rung = false;
            sightings.removeIf(sighting -> sighting.ship == number);
            meltCandles(number);
        }
    }

    int trustIn(int ship) {
        ship(ship);
        int sum = 0;
        for (Sighting sighting : sightings) {
            if (sighting.ship == ship) {
                sum += watchers.get(sighting.watcher);
            }
        }
        return sum;
    }

    int voters(int ship) {
        ship(ship);
        int count = 0;
        for (Sailor sailor : sailors) {
            if (sailor.ship == ship && sailor.voter) {
                count++;
            }
        }
        return count;
    }

    int votesForLost(int ship) {
        ship(ship);
        int count = 0;
        for (Sailor sailor : sailors) {
            if (sailor.ship == ship && sailor.givenUp) {
                count++;
            }
        }
        return count;
    }

    int votesMissing(int ship) {
        int more = 0;
        while (2 * (votesForLost(ship) + more) <= voters(ship)) {
            more++;
        }
        return more;
    }

    boolean isDark(int number) {
        Sailor sailor = sailor(number);
        return ship(sailor.ship).out && sailor.candle == 0;
    }

    int darkCandles() {
        int count = 0;
        for (int number = 0; number < sailors.size(); number++) {
            if (isDark(number)) {
                count++;
            }
        }
        return count;
    }

    int namesOnWall() {
        int count = 0;
        for (Sailor sailor : sailors) {
            if (ship(sailor.ship).lost) {
                count++;
            }
        }
        return count;
    }

    boolean wouldRing(int watcher, int ship) {
        needSightable(watcher, ship);
        return copy().sight(watcher, ship);
    }

    int nightsUntilUnrung(int ship) {
        need(ship(ship).rung);
        Model trial = copy();
        int nights = 0;
        while (trial.ship(ship).rung) {
            trial.burn();
            nights++;
        }
        return nights;
    }

    int nightsUntilDark() {
        Model trial = copy();
        for (int nights = 0; nights <= 200; nights++) {
            if (trial.darkCandles() > 0) {
                return nights;
            }
            trial.burn();
        }
        return -1;
    }

    int waxAfter(int nights) {
        needNumber(nights, 200);
        Model trial = copy();
        for (int i = 0; i < nights; i++) {
            trial.burn();
        }
        return trial.wax;
    }

    int waxWanted(int nights) {
        needNumber(nights, 60);
        for (int more = 0; more <= 500; more++) {
            Model trial = copy();
            trial.wax += more;
            int burned = 0;
            do {
                trial.burn();
                burned++;
            } while (burned < nights && trial.darkCandles() == 0);
            if (trial.darkCandles() == 0) {
                return more;
            }
        }
        return -1;
    }

    double meanTrust() {
        double sum = 0;
        for (int trust : watchers) {
            sum += trust;
        }
        return watchers.isEmpty() ? 0 : sum / watchers.size();
    }

    long digest() {
        List<Integer> numbers = new ArrayList<>(List.of(ships.size(), sailors.size(), watchers.size(),
            sightings.size(), night, wax, darkCandles(), unrung, namesOnWall()));
        for (int number = 0; number < ships.size(); number++) {
            Ship ship = ships.get(number);
            numbers.addAll(List.of(ship.masts, ship.out || ship.lost ? 1 : 0, ship.lost ? 1 : 0, ship.nightsOut,
                ship.rung ? 1 : 0, trustIn(number), voters(number), votesForLost(number)));
        }
        for (Sailor sailor : sailors) {
            numbers.addAll(List.of(sailor.ship, sailor.mast, sailor.voter ? 1 : 0, sailor.givenUp ? 1 : 0,
                sailor.candle));
        }
        numbers.addAll(watchers);
        long d = 1949;
        for (int number : numbers) {
            d = d * 31 + number;
        }
        return d;
    }
}
