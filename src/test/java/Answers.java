/** All that an object answers, as one text: two objects in the same state tell the same. */
final class Answers {

    private Answers() {
    }

    /** In four calls, where a test asks often and must keep to the 512 calls of an object. */
    static String inShort(SailorCandles x) {
        StringBuilder text = new StringBuilder();
        text.append(x.digest()).append(' ').append(x.nightsUntilDark()).append(' ').append(x.waxAfter(3))
            .append(' ').append(x.waxAfter(200));
        return text.toString();
    }

    static String of(SailorCandles x) {
        StringBuilder text = new StringBuilder();
        chapel(text, x);
        for (int ship = 0; ship < x.ships(); ship++) {
            ship(text, x, ship);
        }
        for (int sailor = 0; sailor < x.sailors(); sailor++) {
            text.append(" | sailor ").append(sailor).append(": ").append(x.shipOf(sailor)).append(' ')
                .append(x.mastOf(sailor)).append(' ').append(x.hasVoter(sailor)).append(' ')
                .append(x.isGivenUp(sailor)).append(' ').append(x.candleOf(sailor)).append(' ')
                .append(x.isDark(sailor));
        }
        for (int watcher = 0; watcher < x.watchers(); watcher++) {
            text.append(" | watcher ").append(watcher).append(": ").append(x.trustOf(watcher));
            for (int ship = 0; ship < x.ships(); ship++) {
                text.append(' ').append(ringing(x, watcher, ship));
            }
        }
        return text.toString();
    }

    private static void chapel(StringBuilder text, SailorCandles x) {
        text.append(x.ships()).append(' ').append(x.sailors()).append(' ').append(x.watchers()).append(' ')
            .append(x.sightings()).append(' ').append(x.night()).append(' ').append(x.wax()).append(' ')
            .append(x.darkCandles()).append(' ').append(x.bellsUnrung()).append(' ').append(x.namesOnWall())
            .append(' ').append(x.nightsUntilDark()).append(' ').append(x.waxAfter(1)).append(' ')
            .append(x.waxAfter(2)).append(' ').append(x.waxAfter(3)).append(' ').append(x.waxAfter(200))
            .append(' ').append(x.waxWanted(3)).append(' ').append(x.waxWanted(60)).append(' ')
            .append(x.meanTrust()).append(' ').append(x.digest());
    }

    private static void ship(StringBuilder text, SailorCandles x, int ship) {
        text.append(" | ship ").append(ship).append(": ").append(x.mastsOf(ship)).append(' ')
            .append(x.isAway(ship)).append(' ').append(x.isLost(ship)).append(' ').append(x.nightsOut(ship))
            .append(' ').append(x.isRung(ship)).append(' ').append(x.trustIn(ship)).append(' ')
            .append(x.voters(ship)).append(' ').append(x.votesForLost(ship)).append(' ')
            .append(x.votesMissing(ship)).append(' ')
            .append(x.isRung(ship) ? x.nightsUntilUnrung(ship) : -1);
    }

    private static String ringing(SailorCandles x, int watcher, int ship) {
        try {
            return x.wouldRing(watcher, ship) ? "rings" : "does not ring";
        } catch (IllegalStateException e) {
            return "none";
        }
    }
}
