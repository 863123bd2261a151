import java.math.BigInteger;

/**
 * The boundary cases that promises 19 to 33 name, one method for each sentence: the least and the
 * greatest that may be asked for or answered, none and all. What is refused stands in RefusalsTest.
 *
 * <p>Where a search through all lamps that there can be found a greatest answer below the bound of
 * the document, that one is tested, and NOTES.md tells of the search.
 */
public final class EdgesOfAnswersTest {
    private static final BigInteger TWO_TO_64 = BigInteger.ONE.shiftLeft(64);

    private static final Check CHECK = new Check();

    public static void main(String[] args) {
        onAtFirstAndLastMoment();
        onAtMomentsGoneAndToCome();
        strikesAtFirstAndLastMoment();
        steadyWithoutBeats();
        leastAndGreatestCycle();
        leastAndGreatestChange();
        showsOne();
        showsThirty();
        leastAndGreatestCollision();
        collisionsWithinOne();
        collisionsWithinFiveHundred();
        leastAndGreatestToldApart();
        neverToldApart();
        leastUntilDark();
        greatestUntilDark();
        darkWithinOne();
        darkWithinFiveHundred();
        brightestWithinOne();
        brightestWithinFiveHundred();
        brightestFirstOfSeveral();
        bestCoverWithinOne();
        bestCoverWithinTwoHundred();
        bestCoverSmallestOfSeveral();
        bestCoverNone();
        meanOfNoneAndAll();
        digestOfNone();
        digestWrapsAround();
        CHECK.end();
    }

    private static LanternPrimes pair(boolean onA, int[] beatsA, boolean onB, int[] beatsB) {
        LanternPrimes x = Scene.lamps(onA, onB);
        Scene.addBeats(x, 0, beatsA);
        Scene.addBeats(x, 1, beatsB);
        return x;
    }

    private static int[] beats(int... told) {
        return told;
    }

    /** Promise 19: moments 0 and 60000. */
    private static void onAtFirstAndLastMoment() {
        LanternPrimes x = Scene.lamp(false, 2, 0);
        CHECK.due("19: isOnAt(0, 0), one strike", x.isOnAt(0, 0), true);
        CHECK.due("19: isOnAt(0, 59999), 30000 strikes", x.isOnAt(0, 59999), false);
        CHECK.due("19: isOnAt(0, 60000), 30001 strikes", x.isOnAt(0, 60000), true);
        LanternPrimes late = Scene.lamp(true, 13, 12);
        CHECK.due("19: isOnAt(0, 0), no strike yet", late.isOnAt(0, 0), true);
        // 60000 is 13 * 4615 + 5: the last of 4615 strikes is at 59994.
        CHECK.due("19: isOnAt(0, 59993)", late.isOnAt(0, 59993), true);
        CHECK.due("19: isOnAt(0, 59994)", late.isOnAt(0, 59994), false);
        CHECK.due("19: isOnAt(0, 60000), 4615 strikes", late.isOnAt(0, 60000), false);
        CHECK.due("19: isOnAt(0, 60000) without beats", Scene.lamps(true).isOnAt(0, 60000), true);
        // With 4 beats: 30001, 20001, 12001 and 8572 strikes.
        CHECK.due("19: isOnAt(0, 60000), 4 beats", Scene.lamp(false, 2, 0, 3, 0, 5, 0, 7, 0).isOnAt(0, 60000), true);
    }

    /** Promise 19: "also one that is gone", and the one of now. */
    private static void onAtMomentsGoneAndToCome() {
        LanternPrimes x = Scene.lamp(false, 11, 1);
        x.pass(12);
        x.turnShutter(0);
        boolean[] on = {false, true, true, false, false};
        int[] moments = {0, 1, 11, 12, 13};
        for (int i = 0; i < moments.length; i++) {
            CHECK.due("19: isOnAt(0, " + moments[i] + ") at 12", x.isOnAt(0, moments[i]), on[i]);
        }
        CHECK.due("20: strikesAt(0, 1) at 12", x.strikesAt(0, 1), 1);
        CHECK.due("20: strikesAt(0, 12) at 12", x.strikesAt(0, 12), 1);
    }

    /** Promise 20: moments 0 and 60000, no strike and 4. */
    private static void strikesAtFirstAndLastMoment() {
        // 60000 is a multiple of 2, 3 and 5, and 7 * 8571 + 3.
        LanternPrimes x = Scene.lamp(false, 2, 0, 3, 0, 5, 0, 7, 3);
        CHECK.due("20: strikesAt(0, 0)", x.strikesAt(0, 0), 3);
        CHECK.due("20: strikesAt(0, 60000)", x.strikesAt(0, 60000), 4);
        CHECK.due("20: strikesAt(0, 59999)", x.strikesAt(0, 59999), 0);
        CHECK.due("20: strikesAt(0, 0) without beats", Scene.lamps(true).strikesAt(0, 0), 0);
        CHECK.due("20: strikesAt(0, 60000) without beats", Scene.lamps(true).strikesAt(0, 60000), 0);
        CHECK.due("20: strikesAt(0, 0), 4 at once", Scene.lamp(true, 2, 0, 2, 0, 2, 0, 2, 0).strikesAt(0, 0), 4);
    }

    /** Promise 21: no beat at all, 4 beats that come to nothing, and the rarest change. */
    private static void steadyWithoutBeats() {
        CHECK.due("21: isSteady, on, without beats", Scene.lamps(true).isSteady(0), true);
        CHECK.due("21: isSteady, off, without beats", Scene.lamps(false).isSteady(0), true);
        CHECK.due("21: isSteady, 4 beats", Scene.lamp(true, 13, 0, 2, 1, 2, 1, 13, 0).isSteady(0), true);
        CHECK.due("21: isSteady, each moment twice", Scene.lamp(true, 2, 0, 2, 0, 2, 1, 2, 1).isSteady(0), true);
        CHECK.due("21: isSteady, one in 13", Scene.lamp(true, 13, 0).isSteady(0), false);
        CHECK.due("21: isSteady, one in 13, 3 times", Scene.lamp(true, 13, 5, 13, 5, 13, 5).isSteady(0), false);
        CHECK.due("21: isSteady, all but one in 3", Scene.lamp(true, 2, 0, 2, 1, 3, 0).isSteady(0), false);
        LanternPrimes taken = Scene.lamp(true, 13, 0);
        taken.takeBeat(0, 0);
        CHECK.due("21: isSteady, the only beat taken", taken.isSteady(0), true);
    }

    /** Promise 22: "1 or more"; 5005 is the greatest that 4 beats can make. */
    private static void leastAndGreatestCycle() {
        CHECK.due("22: cycleOf without beats", Scene.lamps(false).cycleOf(0), 1);
        CHECK.due("22: cycleOf, 4 beats to nothing", Scene.lamp(true, 13, 12, 11, 0, 11, 0, 13, 12).cycleOf(0), 1);
        CHECK.due("22: cycleOf, each moment", Scene.lamp(true, 2, 0, 2, 1).cycleOf(0), 2);
        CHECK.due("22: cycleOf, the greatest", Scene.lamp(true, 5, 0, 7, 0, 11, 0, 13, 0).cycleOf(0), 5005);
        CHECK.due("22: cycleOf, the greatest but one", Scene.lamp(true, 2, 1, 7, 6, 11, 10, 13, 12).cycleOf(0), 4004);
    }

    /** Promise 23: "1 or more; -1 if never"; 22 is the greatest that 4 beats can make. */
    private static void leastAndGreatestChange() {
        LanternPrimes x = Scene.lamp(true, 11, 0, 13, 11);
        // At 11 both beats strike; the next to strike is that of 11, at 22; then that of 13, at 24.
        CHECK.due("23: momentsUntilChange at 0, the greatest", x.momentsUntilChange(0), 22);
        x.pass(21);
        CHECK.due("23: momentsUntilChange at 21, the least", x.momentsUntilChange(0), 1);
        x.pass(1);
        CHECK.due("23: momentsUntilChange at 22, the one of now not", x.momentsUntilChange(0), 2);
        CHECK.due("23: momentsUntilChange, never", Scene.lamps(true).momentsUntilChange(0), -1);
        CHECK.due("23: momentsUntilChange, two by two", Scene.lamp(true, 3, 0, 2, 0, 2, 0, 3, 0).momentsUntilChange(0), -1);
    }

    /** Promise 24: 1 moment, that is the one of now. */
    private static void showsOne() {
        LanternPrimes x = Scene.lamp(false, 2, 1);
        CHECK.due("24: shows(0, 1) at 0, off", x.shows(0, 1), 0);
        x.pass(1);
        CHECK.due("24: shows(0, 1) at 1, on", x.shows(0, 1), 1);
        x.turnShutter(0);
        CHECK.due("24: shows(0, 1), covered", x.shows(0, 1), 1);
    }

    /** Promise 24: 30 moments, all on, all off, and what the first and the last of them tell. */
    private static void showsThirty() {
        CHECK.due("24: shows(0, 30), all on", Scene.lamps(true).shows(0, 30), 1073741823);
        CHECK.due("24: shows(0, 30), all off", Scene.lamps(false).shows(0, 30), 0);
        // Turned at 3, 16 and 29: the last of the 30 moments is on.
        CHECK.due("24: shows(0, 30), the last on", Scene.lamp(false, 13, 3).shows(0, 30), (8191 << 14) + 1);
        CHECK.due("24: shows(0, 29), without it", Scene.lamp(false, 13, 3).shows(0, 29), 8191 << 13);
        // Turned at 4, 17 and 30: the last of them is too late.
        CHECK.due("24: shows(0, 30), 30 is too late", Scene.lamp(false, 13, 4).shows(0, 30), 8191 << 13);
        // On from 0 to 21: turned at 0 and 22.
        LanternPrimes first = Scene.lamp(false, 11, 0, 13, 11);
        CHECK.due("24: shows(0, 22), all on", first.shows(0, 22), (1 << 22) - 1);
        CHECK.due("24: shows(0, 24), the first 22 on", first.shows(0, 24), ((1 << 22) - 1) << 2);
    }

    /** Promise 25: "1 to 1000; -1 if not by then"; 209 is the greatest that two lamps can make. */
    private static void leastAndGreatestCollision() {
        LanternPrimes x = pair(true, beats(7, 3, 11, 1, 13, 0, 13, 1), false, beats(11, 0));
        CHECK.due("25: momentsUntilCollision at 0, the greatest", x.momentsUntilCollision(0, 1), 209);
        x.pass(208);
        CHECK.due("25: momentsUntilCollision at 208, the least", x.momentsUntilCollision(0, 1), 1);
        x.pass(1);
        CHECK.due("25: momentsUntilCollision at 209, the one of now not", x.momentsUntilCollision(0, 1) > 1, true);
        LanternPrimes never = pair(true, beats(13, 0), true, beats(13, 1));
        CHECK.due("25: momentsUntilCollision, never", never.momentsUntilCollision(0, 1), -1);
        CHECK.due("25: momentsUntilCollision, one without beats",
                pair(true, beats(2, 0, 2, 1), true, beats()).momentsUntilCollision(1, 0), -1);
        CHECK.due("25: momentsUntilCollision, none with beats",
                pair(true, beats(), false, beats()).momentsUntilCollision(0, 1), -1);
        LanternPrimes full = Scene.lamps(new boolean[8]);
        full.addBeat(0, 5, 1);
        full.addBeat(7, 3, 1);
        CHECK.due("25: momentsUntilCollision(0, 7)", full.momentsUntilCollision(0, 7), 1);
    }

    /** Promise 26: moments 1, "the one of now not counted". */
    private static void collisionsWithinOne() {
        LanternPrimes x = pair(false, beats(2, 0), false, beats(3, 0));
        CHECK.due("26: collisionsWithin(0, 1, 1) at 0", x.collisionsWithin(0, 1, 1), 0);
        x.pass(5);
        CHECK.due("26: collisionsWithin(0, 1, 1) at 5", x.collisionsWithin(0, 1, 1), 1);
        x.pass(1);
        CHECK.due("26: collisionsWithin(0, 1, 1) at 6", x.collisionsWithin(0, 1, 1), 0);
    }

    /** Promise 26: moments 500, the last of them counted, the next one not, none and all of them. */
    private static void collisionsWithinFiveHundred() {
        // Both change at 6, 32, .. 500.
        LanternPrimes last = pair(false, beats(2, 0), true, beats(13, 6));
        CHECK.due("26: collisionsWithin(0, 1, 500), 500 counts", last.collisionsWithin(0, 1, 500), 20);
        CHECK.due("26: collisionsWithin(0, 1, 499)", last.collisionsWithin(0, 1, 499), 19);
        // Both change at 7, 33, .. 501.
        LanternPrimes next = pair(false, beats(2, 1), true, beats(13, 7));
        CHECK.due("26: collisionsWithin(0, 1, 500), 501 does not count", next.collisionsWithin(0, 1, 500), 19);
        LanternPrimes all = pair(false, beats(2, 0, 2, 1), true, beats(3, 0, 3, 1, 3, 2));
        CHECK.due("26: collisionsWithin(0, 1, 500), all", all.collisionsWithin(0, 1, 500), 500);
        LanternPrimes none = pair(false, beats(2, 0, 2, 1), true, beats());
        CHECK.due("26: collisionsWithin(0, 1, 500), none", none.collisionsWithin(0, 1, 500), 0);
    }

    /** Promise 27: "0 if it is so now"; 28 is the greatest that two lamps can make. */
    private static void leastAndGreatestToldApart() {
        LanternPrimes x = pair(false, beats(7, 0, 7, 3, 7, 4, 11, 3), true, beats(11, 7, 11, 10, 13, 4, 13, 11));
        CHECK.due("27: momentsUntilToldApart at 0, the greatest", x.momentsUntilToldApart(0, 1), 28);
        CHECK.due("27: momentsUntilToldApart(1, 0)", x.momentsUntilToldApart(1, 0), 28);
        x.pass(27);
        CHECK.due("27: momentsUntilToldApart at 27", x.momentsUntilToldApart(0, 1), 1);
        x.turnShutter(0);
        x.turnShutter(1);
        x.pass(1);
        CHECK.due("27: momentsUntilToldApart at 28, the least, covered", x.momentsUntilToldApart(0, 1), 0);
        CHECK.due("27: momentsUntilToldApart, now, without beats",
                pair(true, beats(), false, beats()).momentsUntilToldApart(0, 1), 0);
    }

    /** Promise 27: "-1 if never". */
    private static void neverToldApart() {
        CHECK.due("27: momentsUntilToldApart without beats",
                pair(true, beats(), true, beats()).momentsUntilToldApart(0, 1), -1);
        CHECK.due("27: momentsUntilToldApart, 4 beats in another order",
                pair(false, beats(2, 1, 5, 4, 7, 0, 13, 12), false, beats(13, 12, 7, 0, 5, 4, 2, 1))
                        .momentsUntilToldApart(0, 1), -1);
        CHECK.due("27: momentsUntilToldApart, two beats to nothing",
                pair(true, beats(11, 3, 11, 3), true, beats()).momentsUntilToldApart(0, 1), -1);
        // Both are turned at each moment.
        CHECK.due("27: momentsUntilToldApart, each moment by 2 and by 3",
                pair(true, beats(2, 0, 2, 1), true, beats(3, 0, 3, 1, 3, 2)).momentsUntilToldApart(0, 1), -1);
    }

    /** Promise 28: "0 if it is now", without lamps too, 1, and -1 for lamps that are always lit. */
    private static void leastUntilDark() {
        CHECK.due("28: momentsUntilDark() without lamps", new LanternPrimes().momentsUntilDark(), 0);
        CHECK.due("28: momentsUntilDark(), all off", Scene.lamps(new boolean[8]).momentsUntilDark(), 0);
        CHECK.due("28: momentsUntilDark(), always lit", Scene.lamps(true).momentsUntilDark(), -1);
        LanternPrimes x = Scene.lamp(true, 13, 1);
        CHECK.due("28: momentsUntilDark(), the next", x.momentsUntilDark(), 1);
        x.pass(1);
        CHECK.due("28: momentsUntilDark(), now", x.momentsUntilDark(), 0);
        LanternPrimes covered = Scene.lamps(true, true, true, true, true, true, true, true);
        for (int lamp = 0; lamp < 8; lamp++) {
            CHECK.due("28: momentsUntilDark(), one not covered", covered.momentsUntilDark(), -1);
            covered.turnShutter(lamp);
        }
        CHECK.due("28: momentsUntilDark(), all covered", covered.momentsUntilDark(), 0);
    }

    private static final boolean[] START_OF_2001 = {true, true, true, false, false, true, true, true};
    private static final int[][] BEATS_OF_2001 = {
        {3, 0, 3, 2}, {13, 7, 5, 1}, {3, 2}, {13, 7}, {11, 10, 7, 4, 2, 0, 3, 2},
        {5, 2, 5, 1, 2, 0, 5, 1}, {2, 0}, {5, 4, 7, 5, 3, 1, 11, 6}
    };

    /** All are off for the first time at 2001, or on, if each of them is the other way round. */
    private static LanternPrimes alikeFirstAt2001(boolean on) {
        LanternPrimes x = new LanternPrimes();
        for (int lamp = 0; lamp < 8; lamp++) {
            x.addLamp(START_OF_2001[lamp] != on);
            Scene.addBeats(x, lamp, BEATS_OF_2001[lamp]);
        }
        return x;
    }

    private static NaiveLanterns naivelyOffAt2001() {
        NaiveLanterns y = new NaiveLanterns();
        for (int lamp = 0; lamp < 8; lamp++) {
            y.addLamp(START_OF_2001[lamp]);
            for (int i = 0; i < BEATS_OF_2001[lamp].length; i += 2) {
                y.addBeat(lamp, BEATS_OF_2001[lamp][i], BEATS_OF_2001[lamp][i + 1]);
            }
        }
        return y;
    }

    /** Promise 28: "at most 2000; -1 if not by then". */
    private static void greatestUntilDark() {
        LanternPrimes x = alikeFirstAt2001(false);
        NaiveLanterns y = naivelyOffAt2001();
        int[] until = {-1, 2000, 1999};
        for (int moment = 0; moment < 3; moment++) {
            CHECK.due("28: momentsUntilDark() at " + moment, x.momentsUntilDark(), until[moment]);
            CHECK.due("28: the naive program at " + moment, y.momentsUntilDark(), until[moment]);
            x.pass(1);
            y.pass(1);
        }
        for (int lamp = 0; lamp < 8; lamp++) {
            CHECK.due("28: isOnAt(" + lamp + ", 2001)", x.isOnAt(lamp, 2001), false);
        }
    }

    /** Promise 29: moments 1, "the one of now not counted". */
    private static void darkWithinOne() {
        CHECK.due("29: darkWithin(1), dark now alone", Scene.lamp(false, 13, 1).darkWithin(1), 0);
        CHECK.due("29: darkWithin(1), dark then", Scene.lamp(true, 13, 1).darkWithin(1), 1);
        CHECK.due("29: darkWithin(1) without lamps", new LanternPrimes().darkWithin(1), 1);
        LanternPrimes x = Scene.lamp(true, 13, 1);
        x.pass(13);
        CHECK.due("29: darkWithin(1) at 13, lit again at 14", x.darkWithin(1), 0);
    }

    /** Promise 29: moments 500, the last of them counted, the next one not, none and all of them. */
    private static void darkWithinFiveHundred() {
        // Off at 6 to 18, 32 to 44, and so on; the turn at 500 is the one to off again.
        LanternPrimes last = Scene.lamp(true, 13, 6);
        CHECK.due("29: darkWithin(500), 500 counts", last.darkWithin(500), 19 * 13 + 1);
        CHECK.due("29: darkWithin(499)", last.darkWithin(499), 19 * 13);
        // Off at 7 to 19, 33 to 45, and so on; the next turn to off is at 501.
        CHECK.due("29: darkWithin(500), 501 does not count", Scene.lamp(true, 13, 7).darkWithin(500), 19 * 13);
        CHECK.due("29: darkWithin(500), none", Scene.lamps(true).darkWithin(500), 0);
        CHECK.due("29: darkWithin(500), all", Scene.lamps(false).darkWithin(500), 500);
        CHECK.due("29: darkWithin(500) without lamps", new LanternPrimes().darkWithin(500), 500);
    }

    /** Promise 30: moments 1, the answer is 1, however bright it is now. */
    private static void brightestWithinOne() {
        CHECK.due("30: brightestWithin(1), dark then", Scene.lamp(true, 13, 1).brightestWithin(1), 1);
        CHECK.due("30: brightestWithin(1), lit then", Scene.lamp(false, 13, 1).brightestWithin(1), 1);
        CHECK.due("30: brightestWithin(1) without lamps", new LanternPrimes().brightestWithin(1), 1);
        CHECK.due("30: brightestWithin(12), lit now alone", Scene.lamp(false, 13, 0, 13, 1).brightestWithin(12), 1);
    }

    /** Promise 30: "1 to moments", 500 and the last of them; all 8 are lit at 2001 for the first time. */
    private static void brightestWithinFiveHundred() {
        LanternPrimes x = alikeFirstAt2001(true);
        x.pass(500);
        x.pass(500);
        x.pass(500);
        CHECK.due("30: brightestWithin(500) at 1500, 501 does not count", x.brightestWithin(500) < 500, true);
        x.pass(1);
        CHECK.due("30: brightestWithin(500) at 1501, the last", x.brightestWithin(500), 500);
        CHECK.due("30: brightestWithin(499) at 1501", x.brightestWithin(499) < 499, true);
        x.pass(499);
        CHECK.due("30: brightestWithin(1) at 2000", x.brightestWithin(1), 1);
        x.pass(1);
        CHECK.due("17: litLamps() at 2001", x.litLamps(), 8);
        CHECK.due("30: brightestWithin(1) at 2001", x.brightestWithin(1), 1);
    }

    /** Promise 30: "of several the first". */
    private static void brightestFirstOfSeveral() {
        CHECK.due("30: brightestWithin(500), always lit", Scene.lamps(true).brightestWithin(500), 1);
        CHECK.due("30: brightestWithin(500), never lit", Scene.lamps(false, false).brightestWithin(500), 1);
        CHECK.due("30: brightestWithin(500), lit from 12 on", Scene.lamp(false, 13, 12).brightestWithin(500), 12);
        CHECK.due("30: brightestWithin(12), lit from 12 on", Scene.lamp(false, 13, 12).brightestWithin(12), 12);
        CHECK.due("30: brightestWithin(11), lit from 12 on", Scene.lamp(false, 13, 12).brightestWithin(11), 1);
    }

    /** Promise 31: moments 1, the one of now not counted. */
    private static void bestCoverWithinOne() {
        // Lamp 0 is lit now alone, lamp 1 then alone.
        LanternPrimes x = pair(true, beats(13, 1), false, beats(13, 1));
        CHECK.due("31: bestCover(1) at 0", x.bestCover(1), 1);
        LanternPrimes y = pair(false, beats(13, 1), true, beats(13, 1));
        CHECK.due("31: bestCover(1) at 0, the other way round", y.bestCover(1), 0);
    }

    /** Promise 31: moments 200, the last of them counted, the next one not. */
    private static void bestCoverWithinTwoHundred() {
        // Lamp 0 is off at 1, at 4 and 5, 8 and 9, .. 200; lamp 1 at 3 to 5, 9 to 11, .. 195 to 197.
        LanternPrimes last = pair(true, beats(2, 0), false, beats(3, 0));
        CHECK.due("31: bestCover(199), 99 and 99", last.bestCover(199), 0);
        CHECK.due("31: bestCover(200), 99 and 100", last.bestCover(200), 1);
        // Lamp 0 is off as above, at 201 too; lamp 1 is off when lamp 0 is on.
        LanternPrimes next = pair(true, beats(2, 0), false, beats(2, 0));
        CHECK.due("31: bestCover(200), 100 and 100", next.bestCover(200), 0);
        next.turnShutter(1);
        CHECK.due("29: darkWithin(200), lamp 1 covered", next.darkWithin(200), 100);
        CHECK.due("29: darkWithin(201), lamp 1 covered", next.darkWithin(201), 101);
    }

    /** Promise 31: "of several the smallest number", all 8 alike, and each place the best. */
    private static void bestCoverSmallestOfSeveral() {
        for (int lamp = 0; lamp < 8; lamp++) {
            boolean[] on = new boolean[8];
            CHECK.due("31: bestCover(200), all off", Scene.lamps(on).bestCover(200), 0);
            on[lamp] = true;
            LanternPrimes x = Scene.lamps(on);
            CHECK.due("31: bestCover(200), lamp " + lamp + " lit alone", x.bestCover(200), lamp);
            CHECK.due("31: bestCover(1), lamp " + lamp + " lit alone", x.bestCover(1), lamp);
            x.turnShutter(lamp);
            CHECK.due("31: bestCover(200), it is covered", x.bestCover(200), lamp == 0 ? 1 : 0);
        }
    }

    /** Promise 31: "-1 if all are covered, or there are none". */
    private static void bestCoverNone() {
        CHECK.due("31: bestCover(1) without lamps", new LanternPrimes().bestCover(1), -1);
        CHECK.due("31: bestCover(200) without lamps", new LanternPrimes().bestCover(200), -1);
        LanternPrimes x = Scene.lamps(new boolean[8]);
        for (int lamp = 0; lamp < 8; lamp++) {
            CHECK.due("31: bestCover(200), those ahead covered", x.bestCover(200), lamp);
            x.turnShutter(lamp);
        }
        CHECK.due("31: bestCover(1), all covered", x.bestCover(1), -1);
        CHECK.due("31: bestCover(200), all covered", x.bestCover(200), -1);
        x.turnShutter(7);
        CHECK.due("31: bestCover(200), the last uncovered", x.bestCover(200), 7);
    }

    /** Promise 32: "0 without any"; no beats at all, and 4 for each of 8 lamps. */
    private static void meanOfNoneAndAll() {
        CHECK.due("32: meanBeats() without lamps", new LanternPrimes().meanBeats(), 0.0);
        CHECK.due("32: meanBeats() without beats", Scene.lamps(new boolean[8]).meanBeats(), 0.0);
        LanternPrimes full = Scene.full();
        CHECK.due("32: meanBeats(), all", full.meanBeats(), 4.0);
        full.takeBeat(7, 3);
        CHECK.due("32: meanBeats(), all but one", full.meanBeats(), 3.875);
        LanternPrimes one = Scene.lamps(new boolean[8]);
        one.addBeat(7, 2, 0);
        CHECK.due("32: meanBeats(), one of 8 lamps", one.meanBeats(), 0.125);
    }

    /** Promise 33: no lamp, then no beat. */
    private static void digestOfNone() {
        CHECK.due("33: digest() without lamps", new LanternPrimes().digest(), 1744531169L);
        LanternPrimes x = new LanternPrimes();
        x.pass(500);
        CHECK.due("33: digest() without lamps at 500", x.digest(), 1744531169L + 500 * 961);
        CHECK.due("33: digest() without beats", Scene.lamps(true).digest(), wrapped(1, 0, 0, 1, 0, 0, 1, 1, 1, -1));
    }

    private static long wrapped(long... numbers) {
        BigInteger d = BigInteger.valueOf(1889);
        for (long each : numbers) {
            d = d.multiply(BigInteger.valueOf(31)).add(BigInteger.valueOf(each));
        }
        d = d.mod(TWO_TO_64);
        return (d.testBit(63) ? d.subtract(TWO_TO_64) : d).longValueExact();
    }

    /** Promise 33: "wraps around as a 64-bit integer"; with 8 lamps and 32 beats it does so again and again. */
    private static void digestWrapsAround() {
        LanternPrimes x = Scene.full();
        CHECK.due("33: digest() of all", x.digest(), wrapped(numbersOf(x)));
        // One lamp with one beat: behind 12 numbers it is more than 64 bits hold.
        LanternPrimes y = Scene.lamp(false, 13, 12);
        CHECK.due("33: digest() of one", y.digest(), wrapped(1, 0, 0, 0, 1, 0, 0, 0, 26, 12, 13, 12));
    }

    private static long[] numbersOf(LanternPrimes x) {
        long[] numbers = new long[4 + 8 * (6 + 8)];
        int n = 0;
        numbers[n++] = x.lamps();
        numbers[n++] = x.now();
        numbers[n++] = x.changesSeen();
        numbers[n++] = x.litLamps();
        for (int lamp = 0; lamp < 8; lamp++) {
            numbers[n++] = x.beatsOf(lamp);
            numbers[n++] = x.isCovered(lamp) ? 1 : 0;
            numbers[n++] = x.isOn(lamp) ? 1 : 0;
            numbers[n++] = x.isSteady(lamp) ? 1 : 0;
            numbers[n++] = x.cycleOf(lamp);
            numbers[n++] = x.momentsUntilChange(lamp);
            for (int beat = 0; beat < 4; beat++) {
                numbers[n++] = x.numberOf(lamp, beat);
                numbers[n++] = x.offsetOf(lamp, beat);
            }
        }
        return numbers;
    }
}
