/**
 * The boundary cases that 'Terms' and promises 1 to 18 name, one method for each sentence: what is
 * just allowed, the first and the last, none and all. What is refused stands in RefusalsTest.
 */
public final class EdgesOfLampsTest {
    private static final int[] NUMBERS = {2, 3, 5, 7, 11, 13};

    private static final Check CHECK = new Check();

    public static void main(String[] args) {
        everyOffsetOfEveryNumber();
        upToFourStrikesAtOnce();
        behindTheStrikesOfTheMoment();
        lateBeatsCountFromTheMoment0();
        turnsBehindItsShutter();
        aNewObject();
        eightLamps();
        fourBeats();
        theSameBeatFourTimes();
        firstAndLastOffsetToMoveTo();
        firstLastAndOnlyBeatTaken();
        shuttersOfAll();
        passOne();
        passFiveHundred();
        passWithoutAnyChange();
        passWithAllChanging();
        changesSeenNoneOfTheMoment0();
        changesSeenAtMost();
        countsOfWhatThereIs();
        numbersAndOffsetsAtEachPlace();
        litNoneAndAll();
        darkNoneAndAll();
        CHECK.end();
    }

    /** "It strikes at each moment of which the remainder by its number is its offset", 0 to the number less 1. */
    private static void everyOffsetOfEveryNumber() {
        for (int number : NUMBERS) {
            for (int offset = 0; offset < number; offset++) {
                LanternPrimes x = Scene.lamp(false, number, offset);
                String beat = "3: beat " + number + ", " + offset;
                CHECK.due(beat + ", numberOf", x.numberOf(0, 0), number);
                CHECK.due(beat + ", offsetOf", x.offsetOf(0, 0), offset);
                boolean on = false;
                for (int moment = 0; moment <= 40; moment++) {
                    boolean strikes = moment % number == offset;
                    on = on != strikes;
                    CHECK.due(beat + ", strikesAt " + moment, x.strikesAt(0, moment), strikes ? 1 : 0);
                    CHECK.due(beat + ", isOnAt " + moment, x.isOnAt(0, moment), on);
                }
            }
        }
    }

    /** "With two strikes at once it is as it was, with three it is turned, and so on." */
    private static void upToFourStrikesAtOnce() {
        boolean[] turned = {false, true, false, true, false};
        for (int beats = 0; beats <= 4; beats++) {
            LanternPrimes alike = Scene.lamps(false);
            LanternPrimes unlike = Scene.lamps(false);
            for (int beat = 0; beat < beats; beat++) {
                alike.addBeat(0, 13, 0);
                unlike.addBeat(0, NUMBERS[beat], 0);
            }
            CHECK.due("Terms: strikes at 0, alike", alike.strikesAt(0, 0), beats);
            CHECK.due("Terms: on at 0, alike, " + beats, alike.isOn(0), turned[beats]);
            CHECK.due("Terms: on at 0, unlike, " + beats, unlike.isOn(0), turned[beats]);
        }
        LanternPrimes x = Scene.lamp(true, 2, 0, 3, 0, 5, 0, 7, 0);
        int[] moments = {6, 30, 210};
        int[] strikes = {2, 3, 4};
        boolean[] changes = {false, true, false};
        for (int i = 0; i < 3; i++) {
            int at = moments[i];
            CHECK.due("Terms: strikes at " + at, x.strikesAt(0, at), strikes[i]);
            CHECK.due("Terms: changes at " + at, x.isOnAt(0, at) != x.isOnAt(0, at - 1), changes[i]);
        }
    }

    /** "What is told of a moment is told as it is behind the strikes of this moment", of 0, too. */
    private static void behindTheStrikesOfTheMoment() {
        LanternPrimes x = Scene.lamp(false, 7, 0);
        CHECK.due("Terms: isOn at 0", x.isOn(0), true);
        CHECK.due("Terms: isLit at 0", x.isLit(0), true);
        CHECK.due("Terms: litLamps at 0", x.litLamps(), 1);
        CHECK.due("Terms: isDark at 0", x.isDark(), false);
        CHECK.due("Terms: isOnAt(0, 0)", x.isOnAt(0, 0), true);
        CHECK.due("Terms: shows(0, 1) at 0", x.shows(0, 1), 1);
        x.pass(6);
        CHECK.due("Terms: isOn at 6", x.isOn(0), true);
        CHECK.due("Terms: isLit at 6", x.isLit(0), true);
        CHECK.due("Terms: litLamps at 6", x.litLamps(), 1);
        CHECK.due("Terms: isDark at 6", x.isDark(), false);
        x.pass(1);
        CHECK.due("Terms: isOn at 7", x.isOn(0), false);
        CHECK.due("Terms: isLit at 7", x.isLit(0), false);
        CHECK.due("Terms: litLamps at 7", x.litLamps(), 0);
        CHECK.due("Terms: isDark at 7", x.isDark(), true);
    }

    /** "A beat that is added or moved counts as if it had been so from the moment 0 on", and one that is taken not at all. */
    private static void lateBeatsCountFromTheMoment0() {
        LanternPrimes x = Scene.lamps(false);
        x.pass(10);
        x.addBeat(0, 5, 0);
        // 0, 5, 10: three strikes.
        CHECK.due("Terms: isOn, added late", x.isOn(0), true);
        CHECK.due("Terms: isOnAt(0, 0), added late", x.isOnAt(0, 0), true);
        CHECK.due("Terms: isOnAt(0, 5), added late", x.isOnAt(0, 5), false);
        x.moveBeat(0, 0, 1);
        // 1 and 6: two strikes.
        CHECK.due("Terms: isOn, moved late", x.isOn(0), false);
        CHECK.due("Terms: isOnAt(0, 0), moved late", x.isOnAt(0, 0), false);
        CHECK.due("Terms: isOnAt(0, 1), moved late", x.isOnAt(0, 1), true);
        x.moveBeat(0, 0, 4);
        x.pass(4);
        // 4, 9 and 14: three strikes, the last of them told by pass.
        CHECK.due("Terms: isOn, moved again", x.isOn(0), true);
        x.takeBeat(0, 0);
        CHECK.due("Terms: isOn, taken", x.isOn(0), false);
        CHECK.due("Terms: isOnAt(0, 4), taken", x.isOnAt(0, 4), false);
        CHECK.due("10: changesSeen() is what was told", x.changesSeen(), 1);
    }

    /** "A lamp goes on turning behind its shutter." */
    private static void turnsBehindItsShutter() {
        LanternPrimes x = Scene.lamp(false, 2, 1);
        x.turnShutter(0);
        CHECK.due("Terms: pass(1), covered", x.pass(1), 1);
        CHECK.due("Terms: isOn, covered", x.isOn(0), true);
        CHECK.due("Terms: isLit, covered", x.isLit(0), false);
        CHECK.due("Terms: isDark, covered", x.isDark(), true);
        x.turnShutter(0);
        CHECK.due("Terms: isLit, uncovered", x.isLit(0), true);
        CHECK.due("Terms: isDark, uncovered", x.isDark(), false);
    }

    /** Promise 1: "without lamps, at the moment 0"; each answer that needs no lamp. */
    private static void aNewObject() {
        LanternPrimes x = new LanternPrimes();
        CHECK.due("1: lamps()", x.lamps(), 0);
        CHECK.due("1: now()", x.now(), 0);
        CHECK.due("1: changesSeen()", x.changesSeen(), 0);
        CHECK.due("1: litLamps()", x.litLamps(), 0);
        CHECK.due("1: isDark()", x.isDark(), true);
        CHECK.due("1: momentsUntilDark()", x.momentsUntilDark(), 0);
        CHECK.due("1: darkWithin(1)", x.darkWithin(1), 1);
        CHECK.due("1: darkWithin(500)", x.darkWithin(500), 500);
        CHECK.due("1: brightestWithin(1)", x.brightestWithin(1), 1);
        CHECK.due("1: brightestWithin(500)", x.brightestWithin(500), 1);
        CHECK.due("1: bestCover(1)", x.bestCover(1), -1);
        CHECK.due("1: bestCover(200)", x.bestCover(200), -1);
        CHECK.due("1: meanBeats()", x.meanBeats(), 0.0);
        CHECK.due("1: addLamp(false)", x.addLamp(false), 0);
    }

    /** Promise 2: "at most 8, numbered from 0"; each is as it was made, with no beats and no cover. */
    private static void eightLamps() {
        for (int odd = 0; odd < 2; odd++) {
            LanternPrimes x = new LanternPrimes();
            for (int lamp = 0; lamp < 8; lamp++) {
                CHECK.due("2: addLamp, number " + lamp, x.addLamp(lamp % 2 == odd), lamp);
                CHECK.due("8: lamps() behind it", x.lamps(), lamp + 1);
            }
            for (int lamp = 0; lamp < 8; lamp++) {
                CHECK.due("2: isOn(" + lamp + ")", x.isOn(lamp), lamp % 2 == odd);
                CHECK.due("2: isOnAt(" + lamp + ", 60000)", x.isOnAt(lamp, 60000), lamp % 2 == odd);
                CHECK.due("2: beatsOf(" + lamp + ")", x.beatsOf(lamp), 0);
                CHECK.due("2: isCovered(" + lamp + ")", x.isCovered(lamp), false);
            }
            CHECK.due("2: litLamps()", x.litLamps(), 4);
        }
    }

    /** Promise 3: "at most 4 beats, numbered likewise", for the first lamp and the last. */
    private static void fourBeats() {
        LanternPrimes x = Scene.lamps(new boolean[8]);
        for (int lamp = 0; lamp < 8; lamp += 7) {
            for (int beat = 0; beat < 4; beat++) {
                CHECK.due("3: addBeat, number " + beat, x.addBeat(lamp, NUMBERS[beat + 2], beat), beat);
                CHECK.due("11: beatsOf behind it", x.beatsOf(lamp), beat + 1);
            }
            for (int beat = 0; beat < 4; beat++) {
                CHECK.due("3: numberOf(" + lamp + ", " + beat + ")", x.numberOf(lamp, beat), NUMBERS[beat + 2]);
                CHECK.due("3: offsetOf(" + lamp + ", " + beat + ")", x.offsetOf(lamp, beat), beat);
            }
        }
        for (int lamp = 1; lamp < 7; lamp++) {
            CHECK.due("3: beatsOf(" + lamp + "), none", x.beatsOf(lamp), 0);
        }
    }

    /** Promise 3 asks for no difference between the beats of a lamp. */
    private static void theSameBeatFourTimes() {
        LanternPrimes x = Scene.lamps(true);
        for (int beat = 0; beat < 4; beat++) {
            CHECK.due("3: addBeat, the same", x.addBeat(0, 13, 12), beat);
            CHECK.due("3: strikesAt(0, 12)", x.strikesAt(0, 12), beat + 1);
            CHECK.due("3: isOnAt(0, 12)", x.isOnAt(0, 12), beat % 2 == 1);
        }
    }

    /** Promise 4: "0 to one less than the number of the beat", at the first place and the last. */
    private static void firstAndLastOffsetToMoveTo() {
        for (int number : NUMBERS) {
            for (int place = 0; place < 4; place += 3) {
                LanternPrimes x = Scene.lamp(false, number, 0, 11, 5, 11, 6, number, 0);
                String beat = "4: moveBeat, " + number + " at " + place;
                CHECK.due(beat + ", to the last", x.moveBeat(0, place, number - 1), 0);
                CHECK.due(beat + ", offsetOf", x.offsetOf(0, place), number - 1);
                CHECK.due(beat + ", to where it is", x.moveBeat(0, place, number - 1), number - 1);
                CHECK.due(beat + ", to the first", x.moveBeat(0, place, 0), number - 1);
                CHECK.due(beat + ", offsetOf again", x.offsetOf(0, place), 0);
                CHECK.due(beat + ", numberOf", x.numberOf(0, place), number);
                CHECK.due(beat + ", beatsOf", x.beatsOf(0), 4);
                CHECK.due(beat + ", the second stays", x.offsetOf(0, 1), 5);
                CHECK.due(beat + ", the third stays", x.offsetOf(0, 2), 6);
            }
        }
    }

    /** Promise 5: "those behind it move up", from a lamp with 4 beats down to none, and full again. */
    private static void firstLastAndOnlyBeatTaken() {
        int[][] left = {{3, 5, 7}, {2, 5, 7}, {2, 3, 7}, {2, 3, 5}};
        for (int place = 0; place < 4; place++) {
            LanternPrimes x = Scene.lamp(false, 2, 1, 3, 2, 5, 4, 7, 6);
            CHECK.due("5: takeBeat(0, " + place + ") of 4", x.takeBeat(0, place), 3);
            for (int beat = 0; beat < 3; beat++) {
                CHECK.due("5: numberOf(0, " + beat + ")", x.numberOf(0, beat), left[place][beat]);
                CHECK.due("5: offsetOf(0, " + beat + ")", x.offsetOf(0, beat), left[place][beat] - 1);
            }
            CHECK.due("5: addBeat, there is room again", x.addBeat(0, 13, 0), 3);
            CHECK.due("5: numberOf(0, 3)", x.numberOf(0, 3), 13);
            for (int beats = 3; beats >= 0; beats--) {
                CHECK.due("5: takeBeat, the last", x.takeBeat(0, beats), beats);
                CHECK.due("11: beatsOf behind it", x.beatsOf(0), beats);
            }
            CHECK.due("5: addBeat, the first again", x.addBeat(0, 11, 10), 0);
        }
    }

    /** Promise 6, 14: "not, at first", the first lamp and the last, all covered and none. */
    private static void shuttersOfAll() {
        LanternPrimes x = Scene.lamps(new boolean[8]);
        for (int lamp = 0; lamp < 8; lamp++) {
            CHECK.due("14: isCovered at first", x.isCovered(lamp), false);
            CHECK.due("6: turnShutter(" + lamp + ")", x.turnShutter(lamp), true);
            CHECK.due("14: isCovered behind it", x.isCovered(lamp), true);
            CHECK.due("14: isCovered, the next", lamp < 7 && x.isCovered(lamp + 1), false);
        }
        for (int lamp = 0; lamp < 8; lamp++) {
            CHECK.due("6: turnShutter(" + lamp + ") again", x.turnShutter(lamp), false);
            CHECK.due("14: isCovered behind that", x.isCovered(lamp), false);
        }
    }

    /** Promise 7: moments 1, "the one of now not counted". */
    private static void passOne() {
        LanternPrimes x = Scene.lamp(false, 2, 0);
        CHECK.due("7: pass(1) at 0", x.pass(1), 0);
        CHECK.due("9: now() at 1", x.now(), 1);
        CHECK.due("7: pass(1) at 1", x.pass(1), 1);
        CHECK.due("9: now() at 2", x.now(), 2);
        CHECK.due("7: pass(1) at 2", x.pass(1), 0);
    }

    /** Promise 7: moments 500, the last of them counted, the next one not. */
    private static void passFiveHundred() {
        // 500 is 13 * 38 + 6.
        LanternPrimes last = Scene.lamp(false, 13, 6);
        CHECK.due("7: pass(500), 500 counts", last.pass(500), 39);
        CHECK.due("9: now() at 500", last.now(), 500);
        CHECK.due("7: pass(1) at 500, 500 counts no more", last.pass(1), 0);
        CHECK.due("9: now() at 501", last.now(), 501);
        LanternPrimes next = Scene.lamp(false, 13, 7);
        CHECK.due("7: pass(500), 501 does not count", next.pass(500), 38);
        CHECK.due("7: pass(1) at 500, 501 counts", next.pass(1), 1);
        LanternPrimes first = Scene.lamp(false, 13, 0);
        CHECK.due("7: pass(500), 0 does not count", first.pass(500), 38);
    }

    /** Promise 7: no lamp, no beat at all, beats that come to nothing. */
    private static void passWithoutAnyChange() {
        CHECK.due("7: pass(500) without lamps", new LanternPrimes().pass(500), 0);
        CHECK.due("7: pass(500) without beats", Scene.lamps(true, false).pass(500), 0);
        CHECK.due("7: pass(500), two strikes at once", Scene.lamp(true, 7, 6, 7, 6).pass(500), 0);
    }

    private static LanternPrimes eightThatChangeAtEachMoment() {
        LanternPrimes x = Scene.lamps(new boolean[8]);
        for (int lamp = 0; lamp < 8; lamp++) {
            Scene.addBeats(x, lamp, 2, 0, 2, 1);
        }
        return x;
    }

    /** Promise 7: all 8 lamps at each moment, covered lamps as well. */
    private static void passWithAllChanging() {
        LanternPrimes x = eightThatChangeAtEachMoment();
        CHECK.due("7: pass(1), all change", x.pass(1), 8);
        CHECK.due("7: pass(500), all change", x.pass(500), 4000);
        for (int lamp = 0; lamp < 8; lamp++) {
            x.turnShutter(lamp);
        }
        CHECK.due("7: pass(500), all covered", x.pass(500), 4000);
        CHECK.due("10: changesSeen()", x.changesSeen(), 8008);
    }

    /** Promise 10: "so none of the moment 0". */
    private static void changesSeenNoneOfTheMoment0() {
        LanternPrimes x = Scene.lamps(new boolean[8]);
        for (int lamp = 0; lamp < 8; lamp++) {
            x.addBeat(lamp, 2, 0);
        }
        CHECK.due("10: changesSeen() at 0", x.changesSeen(), 0);
        x.pass(1);
        CHECK.due("10: changesSeen() at 1", x.changesSeen(), 0);
        x.pass(1);
        CHECK.due("10: changesSeen() at 2", x.changesSeen(), 8);
    }

    /** Promises 9 and 10: as much as 512 calls can make of them. */
    private static void changesSeenAtMost() {
        LanternPrimes x = eightThatChangeAtEachMoment();
        for (int pass = 0; pass < 486; pass++) {
            x.pass(500);
        }
        CHECK.due("10: changesSeen(), call 511", x.changesSeen(), 486 * 4000);
        CHECK.due("9: now(), call 512", x.now(), 243000);
    }

    /** Promises 8, 9, 11: none and all. */
    private static void countsOfWhatThereIs() {
        CHECK.due("8: lamps(), none", new LanternPrimes().lamps(), 0);
        CHECK.due("9: now(), at first", new LanternPrimes().now(), 0);
        LanternPrimes full = Scene.full();
        CHECK.due("8: lamps(), all", full.lamps(), 8);
        CHECK.due("9: now(), behind 500 and 1", full.now(), 501);
        for (int lamp = 0; lamp < 8; lamp++) {
            CHECK.due("11: beatsOf(" + lamp + "), all", full.beatsOf(lamp), 4);
        }
        CHECK.due("11: beatsOf, none", Scene.lamps(true).beatsOf(0), 0);
    }

    /** Promises 12 and 13: the first place and the last of the first lamp and the last. */
    private static void numbersAndOffsetsAtEachPlace() {
        LanternPrimes x = Scene.full();
        int[] lamps = {0, 0, 7, 7};
        int[] beats = {0, 3, 0, 3};
        int[] numbers = {2, 7, 3, 11};
        int[] offsets = {0, 3, 0, 2};
        for (int i = 0; i < 4; i++) {
            String told = "(" + lamps[i] + ", " + beats[i] + ")";
            CHECK.due("12: numberOf" + told, x.numberOf(lamps[i], beats[i]), numbers[i]);
            CHECK.due("13: offsetOf" + told, x.offsetOf(lamps[i], beats[i]), offsets[i]);
        }
    }

    /** Promises 15 to 17: all 8 off, all on, one on at each place, all covered. */
    private static void litNoneAndAll() {
        LanternPrimes off = Scene.lamps(new boolean[8]);
        CHECK.due("17: litLamps(), all off", off.litLamps(), 0);
        for (int lamp = 0; lamp < 8; lamp++) {
            off.addBeat(lamp, 13, 0);
            CHECK.due("15: isOn(" + lamp + ")", off.isOn(lamp), true);
            CHECK.due("16: isLit(" + lamp + ")", off.isLit(lamp), true);
            CHECK.due("17: litLamps(), so many on", off.litLamps(), lamp + 1);
        }
        for (int lamp = 0; lamp < 8; lamp++) {
            off.turnShutter(lamp);
            CHECK.due("15: isOn(" + lamp + "), covered", off.isOn(lamp), true);
            CHECK.due("16: isLit(" + lamp + "), covered", off.isLit(lamp), false);
            CHECK.due("17: litLamps(), so many covered", off.litLamps(), 7 - lamp);
        }
    }

    /** Promise 18: without lamps, all off, all covered, and one lit alone, at each place. */
    private static void darkNoneAndAll() {
        CHECK.due("18: isDark(), without lamps", new LanternPrimes().isDark(), true);
        for (int lamp = 0; lamp < 8; lamp++) {
            boolean[] on = new boolean[8];
            CHECK.due("18: isDark(), all off", Scene.lamps(on).isDark(), true);
            on[lamp] = true;
            LanternPrimes x = Scene.lamps(on);
            CHECK.due("18: isDark(), lamp " + lamp + " lit alone", x.isDark(), false);
            x.turnShutter(lamp);
            CHECK.due("18: isDark(), it is covered", x.isDark(), true);
        }
    }
}
