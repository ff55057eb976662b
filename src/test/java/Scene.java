/** A harbour in a known state, told by rows, so that a test knows what is due without asking. */
final class Scene {

    static final char HOME = 'h';
    static final char OUT = 'o';
    static final char LOST = 'l';

    final String name;
    /** How many masts each ship has. */
    final int[] masts;
    /** Where each ship is: a sign for each. */
    final String stays;
    /** The ship of each sailor; its last mast is the sailor's. */
    final int[] shipOf;
    /** Whether somebody votes for the sailor: y or n. */
    final String voters;
    final int watchers;
    /** Pairs of a watcher and a ship. */
    final int[][] sighted;

    private Scene(String name, int[] masts, String stays, int[] shipOf, String voters, int watchers,
            int[][] sighted) {
        this.name = name;
        this.masts = masts;
        this.stays = stays;
        this.shipOf = shipOf;
        this.voters = voters;
        this.watchers = watchers;
        this.sighted = sighted;
    }

    static Scene[] all() {
        return new Scene[] {empty(), mixed(), full()};
    }

    static Scene empty() {
        return new Scene("empty", new int[0], "", new int[0], "", 0, new int[0][]);
    }

    /** Ship 0 lost, 1 out and rung, 2 at home, 3 out and sighted by one watcher; room for more of all. */
    static Scene mixed() {
        return new Scene("mixed", new int[] {1, 2, 3, 3}, "loho",
            new int[] {0, 0, 1, 1, 2, 2, 3, 3}, "ynynynyy", 3, new int[][] {{0, 1}, {1, 1}, {2, 3}});
    }

    /** As many ships, sailors and watchers as there can be. */
    static Scene full() {
        return new Scene("full", new int[] {2, 1, 3, 1, 2}, "lohol",
            new int[] {0, 1, 2, 3, 4, 0, 1, 2, 3, 4, 0, 1, 2, 3, 4, 1}, "yyyyyyynnynyyyyy", 4,
            new int[][] {{3, 1}, {2, 1}, {0, 3}});
    }

    int ships() {
        return masts.length;
    }

    int sailors() {
        return shipOf.length;
    }

    boolean hasShip(int ship) {
        return ship >= 0 && ship < ships();
    }

    boolean hasSailor(int sailor) {
        return sailor >= 0 && sailor < sailors();
    }

    boolean hasWatcher(int watcher) {
        return watcher >= 0 && watcher < watchers;
    }

    boolean is(int ship, char stay) {
        return stays.charAt(ship) == stay;
    }

    boolean votes(int sailor) {
        return voters.charAt(sailor) == 'y';
    }

    boolean hasSighting(int watcher, int ship) {
        for (int[] pair : sighted) {
            if (pair[0] == watcher && pair[1] == ship) {
                return true;
            }
        }
        return false;
    }

    /** Each watcher is trusted 5, so two of them ring a bell. */
    boolean isRung(int ship) {
        int count = 0;
        for (int[] pair : sighted) {
            if (pair[1] == ship) {
                count++;
            }
        }
        return count >= 2;
    }

    SailorCandles make() {
        SailorCandles x = new SailorCandles();
        for (int mast : masts) {
            x.addShip(mast);
        }
        for (int sailor = 0; sailor < sailors(); sailor++) {
            x.addSailor(shipOf[sailor], masts[shipOf[sailor]] - 1, votes(sailor));
        }
        for (int watcher = 0; watcher < watchers; watcher++) {
            x.addWatcher();
        }
        loseShips(x);
        x.buyWax(100);
        for (int ship = 0; ship < ships(); ship++) {
            if (is(ship, OUT)) {
                x.sail(ship);
            }
        }
        for (int[] pair : sighted) {
            x.sight(pair[0], pair[1]);
        }
        x.burnNights(1);
        return x;
    }

    private void loseShips(SailorCandles x) {
        for (int ship = 0; ship < ships(); ship++) {
            if (is(ship, LOST)) {
                x.sail(ship);
            }
        }
        for (int sailor = 0; sailor < sailors(); sailor++) {
            if (is(shipOf[sailor], LOST) && votes(sailor)) {
                x.vote(sailor, true);
            }
        }
        x.burnNights(21);
    }

    /** What becomes of an object: tells apart also what no question tells, such as how old sightings are. */
    static String future(SailorCandles x) {
        StringBuilder text = new StringBuilder();
        for (int night = 0; night < 4; night++) {
            text.append(x.burnNights(1)).append(' ').append(x.digest()).append(' ')
                .append(x.waxAfter(200)).append(" | ");
        }
        int ships = x.ships();
        int watchers = x.watchers();
        for (int ship = 0; ship < ships; ship++) {
            for (int watcher = 0; watcher < watchers; watcher++) {
                text.append(sighting(x, watcher, ship));
            }
        }
        text.append(x.burnNights(25)).append(' ').append(x.digest());
        for (int ship = 0; ship < ships; ship++) {
            text.append(" | ").append(x.isAway(ship) ? x.comeHome(ship) : x.sail(ship));
        }
        return text.append(" | ").append(x.burnNights(2)).append(' ').append(x.digest()).toString();
    }

    private static String sighting(SailorCandles x, int watcher, int ship) {
        try {
            return x.sight(watcher, ship) ? "r" : "s";
        } catch (IllegalStateException e) {
            return "-";
        }
    }
}
