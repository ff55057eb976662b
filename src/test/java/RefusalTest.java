/**
 * Every call that can be refused, with right and wrong numbers of each kind, in each scene: that the
 * exception which the document names first is thrown, only where it is due, and changes nothing.
 */
final class RefusalTest {

    private static final Class<? extends RuntimeException> INDEX = IndexOutOfBoundsException.class;
    private static final Class<? extends RuntimeException> STATE = IllegalStateException.class;
    private static final Class<? extends RuntimeException> ARGUMENT = IllegalArgumentException.class;

    private final Scene scene;
    private final String answers;
    private final String future;

    private RefusalTest(Scene scene) {
        this.scene = scene;
        answers = Answers.of(scene.make());
        future = Scene.future(scene.make());
    }

    interface Call {
        void on(SailorCandles x);
    }

    interface Numbered {
        void on(SailorCandles x, int number);
    }

    private static RefusalTest[] inAllScenes() {
        Scene[] scenes = Scene.all();
        RefusalTest[] tests = new RefusalTest[scenes.length];
        for (int i = 0; i < scenes.length; i++) {
            tests[i] = new RefusalTest(scenes[i]);
        }
        return tests;
    }

    /** The very class is due: what the Java machine throws itself is of a class below it. */
    private void expect(Class<? extends RuntimeException> due, String call, Call made) {
        SailorCandles x = scene.make();
        Class<?> thrown = null;
        try {
            made.on(x);
        } catch (RuntimeException e) {
            thrown = e.getClass();
        }
        String what = scene.name + ": " + call;
        if (thrown != due) {
            throw new AssertionError(what + ": due is " + due + ", thrown was " + thrown);
        }
        if (due != null) {
            Check.equal(what + " must change nothing", answers, Answers.of(x));
            Check.equal(what + " must change nothing to come", future, Scene.future(x));
        }
    }

    /** All numbers that there are of a kind, and wrong ones on both sides. */
    private static int[] around(int count) {
        int[] wild = {Integer.MIN_VALUE, Integer.MIN_VALUE + 1, -2, -1, count, count + 1, 16, 17,
            Integer.MAX_VALUE - 1, Integer.MAX_VALUE};
        int[] numbers = new int[count + wild.length];
        for (int i = 0; i < count; i++) {
            numbers[i] = i;
        }
        System.arraycopy(wild, 0, numbers, count, wild.length);
        return numbers;
    }

    private static int[] aroundBounds(int least, int most) {
        return new int[] {Integer.MIN_VALUE, -most, -least, least - 1, least, least + 1, most - 1, most,
            most + 1, most * 2, Integer.MAX_VALUE};
    }

    // ---- the harbour

    static void promise02RefusedShips() {
        for (RefusalTest test : inAllScenes()) {
            for (int masts : aroundBounds(1, 3)) {
                Class<? extends RuntimeException> due = null;
                if (masts < 1 || masts > 3) {
                    due = ARGUMENT;
                } else if (test.scene.ships() == 5) {
                    due = STATE;
                }
                test.expect(due, "addShip(" + masts + ")", x -> x.addShip(masts));
            }
        }
    }

    static void promise03RefusedSailors() {
        for (RefusalTest test : inAllScenes()) {
            for (int ship : around(test.scene.ships())) {
                for (int mast : around(3)) {
                    test.expect(test.dueOfSailor(ship, mast), "addSailor(" + ship + ", " + mast + ")", x -> {
                        x.addSailor(ship, mast, mast % 2 == 0);
                    });
                }
            }
        }
    }

    private Class<? extends RuntimeException> dueOfSailor(int ship, int mast) {
        if (!scene.hasShip(ship) || mast < 0 || mast >= scene.masts[ship]) {
            return INDEX;
        }
        return !scene.is(ship, Scene.HOME) || scene.sailors() == 16 ? STATE : null;
    }

    static void promise04RefusedWatchers() {
        for (RefusalTest test : inAllScenes()) {
            test.expect(test.scene.watchers == 4 ? STATE : null, "addWatcher()", x -> x.addWatcher());
        }
    }

    static void promise05RefusedWax() {
        for (RefusalTest test : inAllScenes()) {
            for (int wax : aroundBounds(1, 500)) {
                test.expect(wax < 1 || wax > 500 ? ARGUMENT : null, "buyWax(" + wax + ")", x -> x.buyWax(wax));
            }
        }
    }

    // ---- ships come and go

    static void promise06RefusedSailing() {
        for (RefusalTest test : inAllScenes()) {
            for (int ship : around(test.scene.ships())) {
                Class<? extends RuntimeException> due = INDEX;
                if (test.scene.hasShip(ship)) {
                    due = test.scene.is(ship, Scene.HOME) ? null : STATE;
                }
                test.expect(due, "sail(" + ship + ")", x -> x.sail(ship));
            }
        }
    }

    static void promise07RefusedComing() {
        for (RefusalTest test : inAllScenes()) {
            for (int ship : around(test.scene.ships())) {
                Class<? extends RuntimeException> due = INDEX;
                if (test.scene.hasShip(ship)) {
                    due = test.scene.is(ship, Scene.HOME) ? STATE : null;
                }
                test.expect(due, "comeHome(" + ship + ")", x -> x.comeHome(ship));
            }
        }
    }

    // ---- watchers and votes

    private Class<? extends RuntimeException> dueOfSighting(int watcher, int ship) {
        if (!scene.hasWatcher(watcher) || !scene.hasShip(ship)) {
            return INDEX;
        }
        return !scene.is(ship, Scene.OUT) || scene.hasSighting(watcher, ship) ? STATE : null;
    }

    static void promise08RefusedSightings() {
        for (RefusalTest test : inAllScenes()) {
            for (int watcher : around(test.scene.watchers)) {
                for (int ship : around(test.scene.ships())) {
                    test.expect(test.dueOfSighting(watcher, ship), "sight(" + watcher + ", " + ship + ")",
                        x -> x.sight(watcher, ship));
                }
            }
        }
    }

    static void promise09RefusedVotes() {
        for (RefusalTest test : inAllScenes()) {
            for (int sailor : around(test.scene.sailors())) {
                Class<? extends RuntimeException> due = INDEX;
                if (test.scene.hasSailor(sailor)) {
                    boolean right = test.scene.votes(sailor)
                        && test.scene.is(test.scene.shipOf[sailor], Scene.OUT);
                    due = right ? null : STATE;
                }
                test.expect(due, "vote(" + sailor + ", true)", x -> x.vote(sailor, true));
                test.expect(due, "vote(" + sailor + ", false)", x -> x.vote(sailor, false));
            }
        }
    }

    // ---- nights

    static void promise10RefusedNights() {
        for (RefusalTest test : inAllScenes()) {
            for (int nights : aroundBounds(1, 60)) {
                test.expect(nights < 1 || nights > 60 ? ARGUMENT : null, "burnNights(" + nights + ")",
                    x -> x.burnNights(nights));
            }
        }
    }

    // ---- questions

    private static void noSuchShip(String name, Numbered question) {
        for (RefusalTest test : inAllScenes()) {
            for (int ship : around(test.scene.ships())) {
                test.expect(test.scene.hasShip(ship) ? null : INDEX, name + "(" + ship + ")",
                    x -> question.on(x, ship));
            }
        }
    }

    private static void noSuchSailor(String name, Numbered question) {
        for (RefusalTest test : inAllScenes()) {
            for (int sailor : around(test.scene.sailors())) {
                test.expect(test.scene.hasSailor(sailor) ? null : INDEX, name + "(" + sailor + ")",
                    x -> question.on(x, sailor));
            }
        }
    }

    static void promise12NoSuchShip() {
        noSuchShip("mastsOf", SailorCandles::mastsOf);
    }

    static void promise13NoSuchShip() {
        noSuchShip("isAway", SailorCandles::isAway);
    }

    static void promise14NoSuchShip() {
        noSuchShip("isLost", SailorCandles::isLost);
    }

    static void promise15NoSuchShip() {
        noSuchShip("nightsOut", SailorCandles::nightsOut);
    }

    static void promise16NoSuchShip() {
        noSuchShip("isRung", SailorCandles::isRung);
    }

    static void promise17NoSuchShip() {
        noSuchShip("trustIn", SailorCandles::trustIn);
    }

    static void promise18NoSuchShip() {
        noSuchShip("voters", SailorCandles::voters);
    }

    static void promise19NoSuchShip() {
        noSuchShip("votesForLost", SailorCandles::votesForLost);
    }

    static void promise20NoSuchShip() {
        noSuchShip("votesMissing", SailorCandles::votesMissing);
    }

    static void promise22NoSuchSailor() {
        noSuchSailor("shipOf", SailorCandles::shipOf);
    }

    static void promise23NoSuchSailor() {
        noSuchSailor("mastOf", SailorCandles::mastOf);
    }

    static void promise24NoSuchSailor() {
        noSuchSailor("hasVoter", SailorCandles::hasVoter);
    }

    static void promise25NoSuchSailor() {
        noSuchSailor("isGivenUp", SailorCandles::isGivenUp);
    }

    static void promise26NoSuchSailor() {
        noSuchSailor("candleOf", SailorCandles::candleOf);
    }

    static void promise27NoSuchSailor() {
        noSuchSailor("isDark", SailorCandles::isDark);
    }

    static void promise29NoSuchWatcher() {
        for (RefusalTest test : inAllScenes()) {
            for (int watcher : around(test.scene.watchers)) {
                test.expect(test.scene.hasWatcher(watcher) ? null : INDEX, "trustOf(" + watcher + ")",
                    x -> x.trustOf(watcher));
            }
        }
    }

    // ---- what would be

    static void promise36RefusedAsking() {
        for (RefusalTest test : inAllScenes()) {
            for (int watcher : around(test.scene.watchers)) {
                for (int ship : around(test.scene.ships())) {
                    test.expect(test.dueOfSighting(watcher, ship), "wouldRing(" + watcher + ", " + ship + ")",
                        x -> x.wouldRing(watcher, ship));
                }
            }
        }
    }

    static void promise37RefusedAsking() {
        for (RefusalTest test : inAllScenes()) {
            for (int ship : around(test.scene.ships())) {
                Class<? extends RuntimeException> due = INDEX;
                if (test.scene.hasShip(ship)) {
                    due = test.scene.isRung(ship) ? null : STATE;
                }
                test.expect(due, "nightsUntilUnrung(" + ship + ")", x -> x.nightsUntilUnrung(ship));
            }
        }
    }

    static void promise39RefusedNights() {
        for (RefusalTest test : inAllScenes()) {
            for (int nights : aroundBounds(1, 200)) {
                test.expect(nights < 1 || nights > 200 ? ARGUMENT : null, "waxAfter(" + nights + ")",
                    x -> x.waxAfter(nights));
            }
        }
    }

    static void promise40RefusedNights() {
        for (RefusalTest test : inAllScenes()) {
            for (int nights : aroundBounds(1, 60)) {
                test.expect(nights < 1 || nights > 60 ? ARGUMENT : null, "waxWanted(" + nights + ")",
                    x -> x.waxWanted(nights));
            }
        }
    }

    // ---- questions change nothing

    private static void asksOnly(String name, Call question) {
        for (RefusalTest test : inAllScenes()) {
            SailorCandles x = test.scene.make();
            question.on(x);
            Check.equal(test.scene.name + ": " + name + " must change nothing", test.answers, Answers.of(x));
            Check.equal(test.scene.name + ": " + name + " must change nothing to come", test.future,
                Scene.future(x));
        }
    }

    static void promise36AskingChangesNothing() {
        for (RefusalTest test : inAllScenes()) {
            for (int watcher = 0; watcher < test.scene.watchers; watcher++) {
                for (int ship = 0; ship < test.scene.ships(); ship++) {
                    if (test.dueOfSighting(watcher, ship) == null) {
                        test.askToRing(watcher, ship);
                    }
                }
            }
        }
    }

    private void askToRing(int watcher, int ship) {
        SailorCandles x = scene.make();
        boolean would = x.wouldRing(watcher, ship);
        Check.equal("wouldRing must change nothing", answers, Answers.of(x));
        Check.equal("wouldRing must change nothing to come", future, Scene.future(x));
        Check.yes("sight tells the same", would == scene.make().sight(watcher, ship));
    }

    static void promise37AskingChangesNothing() {
        asksOnly("nightsUntilUnrung", x -> {
            for (int ship = 0; ship < x.ships(); ship++) {
                if (x.isRung(ship)) {
                    x.nightsUntilUnrung(ship);
                }
            }
        });
    }

    static void promise38AskingChangesNothing() {
        asksOnly("nightsUntilDark", x -> x.nightsUntilDark());
    }

    static void promise39AskingChangesNothing() {
        asksOnly("waxAfter", x -> x.waxAfter(200));
    }

    static void promise40AskingChangesNothing() {
        asksOnly("waxWanted", x -> x.waxWanted(60));
    }
}
