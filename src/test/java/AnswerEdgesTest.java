import java.math.BigInteger;

/** The edges that the document names for all calls but burnNights: what is quoted stands in it. */
final class AnswerEdgesTest {

    private AnswerEdgesTest() {
    }

    /** So many sailors on the first mast of a ship of 3 masts, so many of them with voters, and 4 watchers. */
    private static SailorCandles oneShip(int sailors, int voters) {
        SailorCandles x = new SailorCandles();
        x.addShip(3);
        for (int sailor = 0; sailor < sailors; sailor++) {
            x.addSailor(0, 0, sailor < voters);
        }
        for (int watcher = 0; watcher < 4; watcher++) {
            x.addWatcher();
        }
        return x;
    }

    private static void giveUp(SailorCandles x, int votes) {
        for (int sailor = 0; sailor < votes; sailor++) {
            x.vote(sailor, true);
        }
    }

    /** From 5, three false sightings bring the trust to 0, and four right ones to 9. */
    private static void setTrust(SailorCandles x, int watcher, int emptyShip, int trust) {
        for (int journey = 0; journey < 3 && x.trustOf(watcher) > trust; journey++) {
            x.sail(emptyShip);
            x.sight(watcher, emptyShip);
            x.burnNights(3);
            x.comeHome(emptyShip);
        }
        for (int journey = 0; journey < 4 && x.trustOf(watcher) < trust; journey++) {
            x.sail(emptyShip);
            x.sight(watcher, emptyShip);
            x.comeHome(emptyShip);
        }
        Check.equal("trust to start with", trust, x.trustOf(watcher));
    }

    // ---- the harbour

    /** "Creates a harbour without ships, sailors and watchers": there is nobody with a number. */
    static void promise01NobodyHasANumber() {
        SailorCandles x = new SailorCandles();
        Check.noIndex("ship 0", x, () -> x.mastsOf(0));
        Check.noIndex("sailor 0", x, () -> x.candleOf(0));
        Check.noIndex("watcher 0", x, () -> x.trustOf(0));
    }

    /** "if there is no such ship, or it has no such mast": each ship has its own masts, from 0. */
    static void promise03EachMastOfEachShip() {
        for (int masts = 1; masts <= 3; masts++) {
            SailorCandles x = new SailorCandles();
            x.addShip(3);
            int ship = x.addShip(masts);
            for (int mast = 0; mast < masts; mast++) {
                Check.equal("addSailor", mast, x.addSailor(ship, mast, true));
                Check.equal("mastOf", mast, x.mastOf(mast));
            }
            int missing = masts;
            Check.noIndex("mast " + missing, x, () -> x.addSailor(ship, missing, true));
            Check.noIndex("mast -1", x, () -> x.addSailor(ship, -1, true));
        }
    }

    /** "if there are 16": of all ships together. */
    static void promise03SixteenOfAllShips() {
        SailorCandles x = new SailorCandles();
        for (int ship = 0; ship < 5; ship++) {
            x.addShip(1);
        }
        for (int sailor = 0; sailor < 16; sailor++) {
            Check.equal("addSailor", sailor, x.addSailor(sailor % 5, 0, true));
        }
        for (int ship = 0; ship < 5; ship++) {
            int full = ship;
            Check.noState("ship " + ship, x, () -> x.addSailor(full, 0, true));
        }
    }

    // ---- ships come and go

    /** "12 of the wax are taken for a candle of 12, if there is as much": 11, 12, 13, 23, 24. */
    static void promise06TwelveAreTakenOrNone() {
        int[] bought = {1, 11, 12, 13, 23, 24, 25, 191, 192, 193};
        for (int wax : bought) {
            SailorCandles x = oneShip(16, 0);
            x.buyWax(wax);
            int due = wax / 12 > 16 ? 16 : wax / 12;
            Check.equal("sail with " + wax, due, x.sail(0));
            Check.equal("left of " + wax, wax - 12 * due, x.wax());
            for (int sailor = 0; sailor < 16; sailor++) {
                Check.equal("candleOf(" + sailor + ")", sailor < due ? 12 : 0, x.candleOf(sailor));
            }
        }
    }

    /** "for each of its sailors": whoever has other numbers between them, and nobody of another ship. */
    static void promise06OnlyItsOwnSailors() {
        SailorCandles x = new SailorCandles();
        x.addShip(1);
        x.addShip(1);
        for (int sailor = 0; sailor < 6; sailor++) {
            x.addSailor(1 - sailor % 2, 0, true);
        }
        x.buyWax(30);
        Check.equal("sail(0)", 2, x.sail(0));
        int[] due = {0, 12, 0, 12, 0, 0};
        for (int sailor = 0; sailor < due.length; sailor++) {
            Check.equal("candleOf(" + sailor + ")", due[sailor], x.candleOf(sailor));
        }
        Check.equal("wax", 6, x.wax());
    }

    /** "for no night yet; nobody has given it up": also when it was lost the time ahead. */
    static void promise06AnewFromLost() {
        SailorCandles x = oneShip(2, 2);
        x.sail(0);
        giveUp(x, 2);
        x.burnNights(21);
        x.comeHome(0);
        x.sail(0);
        Check.equal("nightsOut", 0, x.nightsOut(0));
        Check.equal("votesForLost", 0, x.votesForLost(0));
        Check.equal("votesMissing", 2, x.votesMissing(0));
        Check.no("isGivenUp(0)", x.isGivenUp(0));
        Check.no("isGivenUp(1)", x.isGivenUp(1));
        Check.no("isLost", x.isLost(0));
        Check.yes("isAway", x.isAway(0));
    }

    /** "Returns for how many nights it was out": 0, if it comes home at once; all its wax comes back. */
    static void promise07HomeAtOnce() {
        SailorCandles x = oneShip(3, 0);
        x.buyWax(36);
        x.sail(0);
        Check.equal("wax", 0, x.wax());
        Check.equal("comeHome", 0, x.comeHome(0));
        Check.equal("wax", 36, x.wax());
        Check.equal("nightsOut", 0, x.nightsOut(0));
    }

    /** "the heights of its sailors' candles are wax again, and these are 0": of all sixteen, and of no others. */
    static void promise07WaxOfAllSixteen() {
        SailorCandles x = oneShip(15, 0);
        x.addShip(1);
        x.addSailor(1, 0, true);
        x.buyWax(16 * 12);
        x.sail(0);
        x.sail(1);
        x.burnNights(5);
        Check.equal("comeHome(1)", 5, x.comeHome(1));
        Check.equal("wax of the last", 7, x.wax());
        Check.equal("comeHome(0)", 5, x.comeHome(0));
        Check.equal("wax of all", 16 * 7, x.wax());
        for (int sailor = 0; sailor < 16; sailor++) {
            Check.equal("candleOf(" + sailor + ")", 0, x.candleOf(sailor));
        }
    }

    /** "from wherever it is": out for more than 20 nights, lost for some, with nothing left to give. */
    static void promise07HomeFromWherever() {
        SailorCandles x = oneShip(1, 1);
        x.sail(0);
        x.burnNights(33);
        Check.equal("out", 33, x.comeHome(0));
        x.sail(0);
        giveUp(x, 1);
        x.burnNights(33);
        Check.yes("isLost", x.isLost(0));
        Check.equal("lost", 21, x.comeHome(0));
        Check.no("isLost", x.isLost(0));
        Check.equal("wax", 0, x.wax());
    }

    /** "for each sighting of it its watcher has 1 more trust, at most 9": from 0 to 1, from 8 to 9, from 9 to 9. */
    static void promise07TrustFromEachHeight() {
        for (int trust = 0; trust <= 9; trust++) {
            SailorCandles x = oneShip(0, 0);
            x.addShip(1);
            setTrust(x, 2, 1, trust);
            x.sail(0);
            x.sight(2, 0);
            x.comeHome(0);
            Check.equal("from " + trust, trust == 9 ? 9 : trust + 1, x.trustOf(2));
        }
    }

    /** A sighting of 2 nights is one yet; one of 3 nights is none. */
    static void promise07SightingsOfTwoNightsAreBelieved() {
        int[] due = {6, 6, 6, 3, 3};
        for (int nights = 0; nights < due.length; nights++) {
            SailorCandles x = oneShip(0, 0);
            x.sail(0);
            x.sight(0, 0);
            if (nights > 0) {
                x.burnNights(nights);
            }
            x.comeHome(0);
            Check.equal("behind " + nights, due[nights], x.trustOf(0));
            Check.equal("sightings", 0, x.sightings());
        }
    }

    /** "its bell is not rung any more (that is no un-ringing)": neither now nor in nights to come. */
    static void promise07HomecomingIsNoUnringing() {
        SailorCandles x = oneShip(1, 0);
        x.sail(0);
        x.sight(0, 0);
        x.sight(1, 0);
        Check.yes("isRung", x.isRung(0));
        x.comeHome(0);
        Check.no("isRung", x.isRung(0));
        x.burnNights(5);
        Check.equal("bellsUnrung", 0, x.bellsUnrung());
        Check.equal("trustOf", 6, x.trustOf(0));
        x.sail(0);
        Check.no("nor when it is out again", x.isRung(0));
    }

    // ---- watchers and votes

    /** "If the trust in the ship is 6 or more then": each trust of one watcher alone. */
    static void promise08EachTrustAlone() {
        for (int trust = 0; trust <= 9; trust++) {
            SailorCandles x = oneShip(0, 0);
            x.addShip(1);
            setTrust(x, 0, 1, trust);
            x.sail(0);
            Check.yes("wouldRing by " + trust, x.wouldRing(0, 0) == (trust >= 6));
            Check.yes("sight by " + trust, x.sight(0, 0) == (trust >= 6));
            Check.yes("isRung by " + trust, x.isRung(0) == (trust >= 6));
            Check.equal("trustIn", trust, x.trustIn(0));
            Check.equal("sightings", 1, x.sightings());
        }
    }

    /** "or there is a sighting of it by this watcher": another watcher's, or one of another ship, is none. */
    static void promise08TwentySightings() {
        SailorCandles x = oneShip(0, 0);
        for (int ship = 1; ship < 5; ship++) {
            x.addShip(1);
        }
        int count = 0;
        for (int ship = 0; ship < 5; ship++) {
            x.sail(ship);
            for (int watcher = 0; watcher < 4; watcher++) {
                Check.yes("sight", x.sight(watcher, ship) == (watcher > 0));
                count++;
                Check.equal("sightings", count, x.sightings());
            }
            Check.equal("trustIn", 20, x.trustIn(ship));
        }
        for (int watcher = 0; watcher < 4; watcher++) {
            int again = watcher;
            Check.noState("sighted already", x, () -> x.sight(again, 4 - again));
        }
    }

    /** "its bell is rung": of each ship by each pair of watchers, and no other's. */
    static void promise08EachShipByEachPair() {
        for (int ship = 0; ship < 5; ship++) {
            for (int first = 0; first < 4; first++) {
                for (int second = 0; second < 4; second++) {
                    if (first != second) {
                        ringAlone(ship, first, second);
                    }
                }
            }
        }
    }

    private static void ringAlone(int ship, int first, int second) {
        SailorCandles x = oneShip(0, 0);
        for (int more = 1; more < 5; more++) {
            x.addShip(1);
        }
        for (int any = 0; any < 5; any++) {
            x.sail(any);
        }
        Check.no("5", x.sight(first, ship));
        Check.yes("10", x.sight(second, ship));
        for (int any = 0; any < 5; any++) {
            Check.yes("isRung(" + any + ")", x.isRung(any) == (any == ship));
            Check.equal("trustIn(" + any + ")", any == ship ? 10 : 0, x.trustIn(any));
        }
        x.burnNights(3);
        Check.no("isRung", x.isRung(ship));
        Check.equal("bellsUnrung", 1, x.bellsUnrung());
        for (int watcher = 0; watcher < 4; watcher++) {
            boolean wrong = watcher == first || watcher == second;
            Check.equal("trustOf(" + watcher + ")", wrong ? 3 : 5, x.trustOf(watcher));
        }
    }

    /** "there is a sighting of it by this watcher": not any more, when the ship came home and is out again. */
    static void promise08SightedTheTimeAhead() {
        SailorCandles x = oneShip(0, 0);
        x.sail(0);
        Check.no("5", x.sight(0, 0));
        x.comeHome(0);
        x.sail(0);
        Check.yes("6", x.sight(0, 0));
    }

    /** "gives the ship up, or not any more": not, though it was not given up. */
    static void promise09NotAnyMoreWithoutHavingGivenUp() {
        SailorCandles x = oneShip(3, 3);
        x.sail(0);
        Check.equal("vote(0, false)", 0, x.vote(0, false));
        giveUp(x, 3);
        Check.equal("votesForLost", 3, x.votesForLost(0));
        for (int sailor = 0; sailor < 3; sailor++) {
            Check.equal("vote(" + sailor + ", false)", 2 - sailor, x.vote(sailor, false));
        }
        x.burnNights(30);
        Check.no("isLost", x.isLost(0));
    }

    // ---- ships

    /** "0 if it never was": nights at home do not count. */
    static void promise15NeverOut() {
        SailorCandles x = oneShip(1, 1);
        x.burnNights(40);
        Check.equal("nightsOut", 0, x.nightsOut(0));
    }

    /** "The trust in a ship is the trust, added": of 4 watchers of 9, and of 4 of 0. */
    static void promise17LeastAndMostTrust() {
        int[] trusts = {0, 9};
        for (int trust : trusts) {
            SailorCandles x = oneShip(0, 0);
            x.addShip(1);
            for (int watcher = 0; watcher < 4; watcher++) {
                setTrust(x, watcher, 1, trust);
            }
            x.sail(0);
            for (int watcher = 0; watcher < 4; watcher++) {
                x.sight(watcher, 0);
                Check.equal("trustIn", trust * (watcher + 1), x.trustIn(0));
            }
            Check.yes("isRung", x.isRung(0) == (trust == 9));
            Check.equal("sightings", 4, x.sightings());
        }
    }

    /** "for how many of its sailors somebody votes": 0 to 16. */
    static void promise18EachNumberOfVoters() {
        for (int voters = 0; voters <= 16; voters++) {
            Check.equal("voters", voters, oneShip(16, voters).voters(0));
        }
    }

    /** "so that these are more than half of them; 0 if they are": each number of voters, each of votes. */
    static void promise20EachNumberOfVotes() {
        for (int voters = 0; voters <= 16; voters++) {
            SailorCandles x = oneShip(16, voters);
            x.sail(0);
            for (int given = 0; given <= voters; given++) {
                int due = 0;
                while (2 * (given + due) <= voters) {
                    due++;
                }
                Check.equal(given + " of " + voters, due, x.votesMissing(0));
                if (given < voters) {
                    Check.equal("vote", given + 1, x.vote(given, true));
                }
            }
        }
    }

    /** "so 1 for a ship for whose sailors nobody votes, which is never lost". */
    static void promise20NobodyVotes() {
        SailorCandles x = oneShip(3, 0);
        x.addShip(1);
        x.sail(0);
        x.sail(1);
        for (int i = 0; i < 10; i++) {
            x.burnNights(60);
            Check.equal("sailors without voters", 1, x.votesMissing(0));
            Check.equal("without sailors", 1, x.votesMissing(1));
            Check.no("isLost(0)", x.isLost(0));
            Check.no("isLost(1)", x.isLost(1));
        }
    }

    // ---- sailors

    /** "also the latest time that it was out": at home from lost, and a new one has not given up. */
    static void promise25TheLatestTime() {
        SailorCandles x = oneShip(2, 2);
        x.sail(0);
        giveUp(x, 2);
        x.burnNights(21);
        Check.equal("lost", 2, x.votesForLost(0));
        x.comeHome(0);
        int added = x.addSailor(0, 0, true);
        Check.yes("isGivenUp(0)", x.isGivenUp(0));
        Check.yes("isGivenUp(1)", x.isGivenUp(1));
        Check.no("the new one", x.isGivenUp(added));
        Check.equal("votesForLost", 2, x.votesForLost(0));
        Check.equal("voters", 3, x.voters(0));
    }

    /** "It is dark, if its sailor is waited for, and its height is 0": through all that a ship may be. */
    static void promise27DarkOnlyWhileTheShipIsOut() {
        SailorCandles x = oneShip(1, 1);
        Check.no("at home", x.isDark(0));
        x.sail(0);
        Check.yes("out", x.isDark(0));
        x.sight(0, 0);
        x.sight(1, 0);
        Check.yes("out, and rung", x.isDark(0));
        giveUp(x, 1);
        x.burnNights(20);
        Check.yes("out, and given up", x.isDark(0));
        x.burnNights(1);
        Check.no("lost", x.isDark(0));
        x.comeHome(0);
        Check.no("at home again", x.isDark(0));
        x.buyWax(12);
        x.sail(0);
        Check.no("out with a candle", x.isDark(0));
        x.burnNights(11);
        Check.no("a height of 1", x.isDark(0));
        x.burnNights(1);
        Check.yes("a height of 0", x.isDark(0));
    }

    // ---- the chapel

    /** None, some and all sixteen are dark. */
    static void promise33NoneAndAllDark() {
        SailorCandles x = oneShip(16, 16);
        Check.equal("at home", 0, x.darkCandles());
        x.sail(0);
        Check.equal("out", 16, x.darkCandles());
        x.buyWax(192 + 9 * 12);
        x.burnNights(12);
        Check.equal("lit", 0, x.darkCandles());
        x.burnNights(1);
        Check.equal("wax for nine", 7, x.darkCandles());
        giveUp(x, 16);
        x.burnNights(7);
        Check.equal("20 nights", 7, x.darkCandles());
        x.burnNights(1);
        Check.equal("lost", 0, x.darkCandles());
    }

    /** "how many sailors there are whose ship is lost": all sixteen, with and without voters. */
    static void promise35NoneAndAllLost() {
        SailorCandles x = oneShip(16, 1);
        x.addShip(1);
        x.sail(0);
        x.sail(1);
        giveUp(x, 1);
        x.burnNights(20);
        Check.equal("none", 0, x.namesOnWall());
        x.burnNights(1);
        Check.equal("all", 16, x.namesOnWall());
        x.comeHome(0);
        Check.equal("none", 0, x.namesOnWall());
    }

    // ---- what would be

    /** "what sight() would tell now": each trust of a second watcher beside one of 3. */
    static void promise36EachTrustBesideAnother() {
        for (int trust = 0; trust <= 9; trust++) {
            SailorCandles x = oneShip(0, 0);
            x.addShip(1);
            setTrust(x, 0, 1, 3);
            setTrust(x, 3, 1, trust);
            x.sail(0);
            x.sight(0, 0);
            Check.yes("3 and " + trust, x.wouldRing(3, 0) == (trust >= 3));
            Check.no("not by asking", x.isRung(0));
            Check.yes("sight tells it too", x.sight(3, 0) == (trust >= 3));
        }
    }

    /** "Returns what sight() would tell": a bell that is rung stays so by a watcher of no trust. */
    static void promise36RungAlready() {
        SailorCandles x = oneShip(0, 0);
        x.addShip(1);
        setTrust(x, 3, 1, 0);
        x.sail(0);
        x.sight(0, 0);
        Check.no("5 and 0", x.wouldRing(3, 0));
        x.sight(1, 0);
        Check.yes("10 and 0", x.wouldRing(3, 0));
        Check.yes("sight tells it too", x.sight(3, 0));
    }

    /** "what sight() would tell now": not what was so when something was asked ahead of now. */
    static void promise36OfNowWhateverWasAskedAhead() {
        SailorCandles x = oneShip(0, 0);
        x.sail(0);
        x.sight(0, 0);
        x.sight(1, 0);
        Check.equal("waxAfter", 0, x.waxAfter(1));
        x.comeHome(0);
        x.sail(0);
        Check.no("5", x.wouldRing(2, 0));
        Check.no("sight tells it too", x.sight(2, 0));
    }

    /** "un-rung or not any more": a loss that is due in 1, 2 or 3 nights, and one that is too late. */
    static void promise37LossInEachNight() {
        for (int ahead = 1; ahead <= 5; ahead++) {
            SailorCandles x = oneShip(1, 1);
            x.sail(0);
            giveUp(x, 1);
            x.burnNights(21 - ahead);
            x.sight(0, 0);
            x.sight(1, 0);
            int due = ahead < 3 ? ahead : 3;
            Check.equal("lost in " + ahead, due, x.nightsUntilUnrung(0));
            x.burnNights(due);
            Check.no("isRung", x.isRung(0));
            Check.equal("bellsUnrung", ahead < 3 ? 0 : 1, x.bellsUnrung());
        }
    }

    /** "for the first time": rung by sightings of several ages, behind 1, 2 and 3 nights. */
    static void promise37TheTrustThatIsLeftDecides() {
        SailorCandles x = oneShip(1, 0);
        x.sail(0);
        x.sight(0, 0);
        x.burnNights(1);
        x.sight(1, 0);
        Check.equal("5 of last night and 5", 2, x.nightsUntilUnrung(0));
        x.sight(2, 0);
        Check.equal("5 of last night, 5 and 5", 3, x.nightsUntilUnrung(0));
        x.burnNights(1);
        Check.equal("a night later", 2, x.nightsUntilUnrung(0));
        x.burnNights(1);
        Check.yes("rung yet", x.isRung(0));
        Check.equal("two nights later", 1, x.nightsUntilUnrung(0));
        x.burnNights(1);
        Check.no("un-rung", x.isRung(0));
    }

    /** "0 if one is now": also while its bell is rung. */
    static void promise38DarkNow() {
        SailorCandles x = oneShip(1, 0);
        Check.equal("at home", -1, x.nightsUntilDark());
        x.sail(0);
        Check.equal("out", 0, x.nightsUntilDark());
        x.sight(0, 0);
        x.sight(1, 0);
        Check.equal("rung", 0, x.nightsUntilDark());
        x.comeHome(0);
        Check.equal("home", -1, x.nightsUntilDark());
    }

    /** One sailor, given up, gets a candle in night 9, which burns down in night 21, that of the loss. */
    private static SailorCandles burnedDownInTheNightOfLoss() {
        SailorCandles x = oneShip(1, 1);
        x.sail(0);
        x.burnNights(8);
        x.buyWax(12);
        x.burnNights(1);
        Check.equal("candleOf", 12, x.candleOf(0));
        giveUp(x, 1);
        return x;
    }

    /** "It is dark, if its sailor is waited for": not behind the night in which the ship is lost. */
    static void promise38LostInTheNightOfTheDark() {
        SailorCandles x = burnedDownInTheNightOfLoss();
        Check.equal("lost in that night", -1, x.nightsUntilDark());
        x.vote(0, false);
        Check.equal("not lost", 12, x.nightsUntilDark());
        x.vote(0, true);
        x.burnNights(12);
        Check.yes("isLost", x.isLost(0));
        Check.equal("darkCandles", 0, x.darkCandles());
    }

    /** "some candle ... for the first time": whichever ship's and sailor's it is. */
    static void promise38TheFirstOfMany() {
        SailorCandles x = new SailorCandles();
        x.addShip(3);
        x.addShip(3);
        x.addSailor(0, 0, false);
        x.addSailor(1, 1, false);
        x.addSailor(1, 0, false);
        x.buyWax(36);
        x.sail(0);
        x.sail(1);
        Check.equal("the second mast", 6, x.nightsUntilDark());
        x.comeHome(1);
        Check.equal("24 of wax: three candles of 12 nights", 36, x.nightsUntilDark());
    }

    /** "Returns how much wax there is behind them": 1 night and 200, with what a loss gives back. */
    static void promise39LeastAndMostNights() {
        SailorCandles x = oneShip(1, 1);
        x.buyWax(500);
        x.sail(0);
        Check.equal("waxAfter(1)", 488, x.waxAfter(1));
        Check.equal("waxAfter(11)", 488, x.waxAfter(11));
        Check.equal("waxAfter(12)", 476, x.waxAfter(12));
        Check.equal("waxAfter(199): 16 new candles", 488 - 16 * 12, x.waxAfter(199));
        Check.equal("waxAfter(200)", 488 - 16 * 12, x.waxAfter(200));
        giveUp(x, 1);
        Check.equal("ahead of the loss", 476, x.waxAfter(20));
        Check.equal("3 of the candle are wax again", 479, x.waxAfter(21));
        Check.equal("nothing burns any more", 479, x.waxAfter(200));
    }

    /** "the least wax, 0 to 500": 0, if nobody is waited for, or if there is enough. */
    static void promise40NothingWanted() {
        SailorCandles x = oneShip(1, 1);
        Check.equal("nobody is waited for", 0, x.waxWanted(60));
        x.buyWax(72);
        x.sail(0);
        Check.equal("six candles are there", 0, x.waxWanted(60));
        Check.equal("and 59 nights are less", 0, x.waxWanted(59));
        SailorCandles y = oneShip(1, 1);
        y.buyWax(71);
        y.sail(0);
        Check.equal("five candles are there, and 11", 0, y.waxWanted(59));
        Check.equal("1 is missing", 1, y.waxWanted(60));
    }

    /** "no candle is dark behind each of so many nights": a candle that burns down in the night of the loss is not. */
    static void promise40LostInTheNightOfTheDark() {
        SailorCandles x = burnedDownInTheNightOfLoss();
        Check.equal("to the night of the loss", 0, x.waxWanted(12));
        Check.equal("and on", 0, x.waxWanted(60));
        x.vote(0, false);
        Check.equal("ahead of that night", 0, x.waxWanted(11));
        Check.equal("not lost", 12, x.waxWanted(12));
        Check.equal("and on", 60, x.waxWanted(60));
    }

    /** "dark ones of now do not matter": if they are lit, lost or un-rung in the first night. */
    static void promise40DarkOnesOfNow() {
        SailorCandles lost = oneShip(1, 1);
        lost.sail(0);
        giveUp(lost, 1);
        lost.burnNights(20);
        Check.equal("lost in the first night", 0, lost.waxWanted(60));
        lost.sight(0, 0);
        lost.sight(1, 0);
        Check.equal("lost and rung", 0, lost.waxWanted(60));
        SailorCandles unrung = oneShip(1, 1);
        unrung.sail(0);
        unrung.sight(0, 0);
        unrung.sight(1, 0);
        unrung.burnNights(1);
        Check.equal("rung behind the first night", -1, unrung.waxWanted(1));
        Check.equal("and for longer", -1, unrung.waxWanted(60));
        unrung.burnNights(1);
        Check.equal("un-rung in the first night", 12, unrung.waxWanted(1));
        Check.equal("12 nights", 12, unrung.waxWanted(12));
        Check.equal("13 nights", 24, unrung.waxWanted(13));
    }

    /** "-1 if 500 is not enough": at 500 and 501, with wax that is there counted in. */
    static void promise40FiveHundredOrMore() {
        for (int there = 0; there <= 13; there++) {
            SailorCandles x = oneShip(14, 0);
            x.buyWax(14 * 12 + there);
            x.sail(0);
            Check.equal("11 nights", 0, x.waxWanted(11));
            Check.equal("12 nights, with " + there, 14 * 12 - there, x.waxWanted(12));
            Check.equal("24 nights, with " + there, 2 * 14 * 12 - there, x.waxWanted(24));
            int due = 3 * 14 * 12 - there;
            Check.equal("36 nights, with " + there, due > 500 ? -1 : due, x.waxWanted(36));
        }
    }

    /** "without any" a mean of 0; all of no trust have one too; all of 9 have 9. */
    static void promise41LeastAndMostMean() {
        int[] trusts = {0, 9};
        for (int trust : trusts) {
            SailorCandles x = oneShip(0, 0);
            for (int watcher = 0; watcher < 4; watcher++) {
                setTrust(x, watcher, 0, trust);
            }
            Check.equal("meanTrust", (double) trust, x.meanTrust());
        }
        SailorCandles x = new SailorCandles();
        x.addShip(1);
        Check.equal("without any", 0.0, x.meanTrust());
        x.addWatcher();
        setTrust(x, 0, 0, 0);
        Check.equal("one of no trust", 0.0, x.meanTrust());
        x.addWatcher();
        Check.equal("0 and 5", 2.5, x.meanTrust());
        x.addWatcher();
        Check.equal("0, 5 and 5", 10.0 / 3.0, x.meanTrust());
    }

    /** "which wraps around as a 64-bit integer": told with numbers that do not. */
    static void promise42WrapsAround() {
        boolean negative = false;
        boolean positive = false;
        boolean dark = false;
        for (Scene scene : Scene.all()) {
            SailorCandles x = scene.make();
            for (int step = 0; step < 3; step++) {
                long due = digestOf(x).longValue();
                Check.equal(scene.name, due, x.digest());
                negative = negative || due < 0;
                positive = positive || due > 0;
                dark = dark || x.darkCandles() > 1;
                x.burnNights(1 + step * 20);
            }
        }
        Check.yes("some digests are below 0", negative);
        Check.yes("some are above", positive);
        Check.yes("some are of dark candles", dark);
    }

    private static BigInteger digestOf(SailorCandles x) {
        int[] chapel = {x.ships(), x.sailors(), x.watchers(), x.sightings(), x.night(), x.wax(),
            x.darkCandles(), x.bellsUnrung(), x.namesOnWall()};
        BigInteger d = mix(BigInteger.valueOf(1949), chapel);
        int ships = x.ships();
        for (int ship = 0; ship < ships; ship++) {
            d = mix(d, x.mastsOf(ship), one(x.isAway(ship)), one(x.isLost(ship)), x.nightsOut(ship),
                one(x.isRung(ship)), x.trustIn(ship), x.voters(ship), x.votesForLost(ship));
        }
        int sailors = x.sailors();
        for (int sailor = 0; sailor < sailors; sailor++) {
            d = mix(d, x.shipOf(sailor), x.mastOf(sailor), one(x.hasVoter(sailor)), one(x.isGivenUp(sailor)),
                x.candleOf(sailor));
        }
        int watchers = x.watchers();
        for (int watcher = 0; watcher < watchers; watcher++) {
            d = mix(d, x.trustOf(watcher));
        }
        return d;
    }

    private static BigInteger mix(BigInteger start, int... numbers) {
        BigInteger d = start;
        for (int number : numbers) {
            d = d.multiply(BigInteger.valueOf(31)).add(BigInteger.valueOf(number));
        }
        return d;
    }

    private static int one(boolean so) {
        return so ? 1 : 0;
    }
}
