import java.util.List;
import java.util.function.Function;
import java.util.function.Supplier;

/**
 * Every call that the document refuses: with the first values that are not allowed, on both sides,
 * and far ones; which of several exceptions comes first; and that nothing is changed by it.
 */
public final class RefusalsTest {
    private static final Class<IndexOutOfBoundsException> INDEX = IndexOutOfBoundsException.class;
    private static final Class<IllegalArgumentException> ARGUMENT = IllegalArgumentException.class;
    private static final Class<IllegalStateException> STATE = IllegalStateException.class;
    private static final int LEAST = Integer.MIN_VALUE;
    private static final int GREATEST = Integer.MAX_VALUE;
    private static final int[] NUMBERS = {2, 3, 5, 7, 11, 13};
    private static final int[] NOT_1_TO_500 = {LEAST, -500, -1, 0, 501, 502, GREATEST};
    private static final int[] NOT_1_TO_200 = {LEAST, -200, -1, 0, 201, 500, GREATEST};
    private static final int[] NOT_1_TO_30 = {LEAST, -30, -1, 0, 31, 32, GREATEST};
    private static final int[] NOT_0_TO_60000 = {LEAST, -60000, -1, 60001, 60002, GREATEST};

    private static final Supplier<LanternPrimes> EMPTY = LanternPrimes::new;
    private static final Supplier<LanternPrimes> BARE = () -> Scene.lamps(true);
    private static final Supplier<LanternPrimes> MIXED = Scene::mixed;
    private static final Supplier<LanternPrimes> FULL = Scene::full;

    private static final Check CHECK = new Check();

    public static void main(String[] args) {
        aNinthLamp();
        noSuchLamp();
        noSuchBeat();
        noSuchNumber();
        noSuchOffset();
        noSuchOffsetToMoveTo();
        aFifthBeat();
        momentsOfAll();
        momentsOfOneLamp();
        momentsOfTwoLamps();
        theSameLampTwice();
        CHECK.end();
    }

    private static void refused(Supplier<LanternPrimes> scene, String call,
            Class<? extends RuntimeException> due, Function<LanternPrimes, Object> made) {
        CHECK.refused(scene, call, due, made);
    }

    /** Promise 2: "if there are 8". */
    private static void aNinthLamp() {
        boolean[] eight = new boolean[8];
        refused(() -> Scene.lamps(eight), "2: addLamp(true), there are 8", STATE, x -> x.addLamp(true));
        refused(() -> Scene.lamps(eight), "2: addLamp(false), there are 8", STATE, x -> x.addLamp(false));
        refused(FULL, "2: addLamp(true), all with beats", STATE, x -> x.addLamp(true));
        refused(FULL, "2: addLamp(false), all with beats", STATE, x -> x.addLamp(false));
    }

    /** "If there is no such lamp", without lamps, with one, with some, with all eight. */
    private static void noSuchLamp() {
        noSuchLamps(EMPTY, LEAST, -1, 0, 1, 7, GREATEST);
        noSuchLamps(BARE, LEAST, -1, 1, 7, GREATEST);
        noSuchLamps(MIXED, LEAST, -1, 4, 5, 7, GREATEST);
        noSuchLamps(FULL, LEAST, -8, -1, 8, 9, GREATEST);
    }

    private static void noSuchLamps(Supplier<LanternPrimes> scene, int... lamps) {
        for (int lamp : lamps) {
            noSuchLampToChange(scene, lamp);
            noSuchLampToAsk(scene, lamp);
            noSuchLampOfTwo(scene, lamp);
        }
    }

    /** Where further arguments can be wrong, the call is made with right ones, and with wrong ones: the lamp comes first. */
    private static void noSuchLampToChange(Supplier<LanternPrimes> scene, int lamp) {
        String told = "(" + lamp + ", ..)";
        refused(scene, "3: addBeat" + told, INDEX, x -> x.addBeat(lamp, 2, 0));
        refused(scene, "3: addBeat" + told + ", the number wrong too", INDEX, x -> x.addBeat(lamp, 4, 0));
        refused(scene, "3: addBeat" + told + ", the offset wrong too", INDEX, x -> x.addBeat(lamp, 2, 2));
        refused(scene, "4: moveBeat" + told, INDEX, x -> x.moveBeat(lamp, 0, 0));
        refused(scene, "4: moveBeat" + told + ", the beat wrong too", INDEX, x -> x.moveBeat(lamp, -1, 0));
        refused(scene, "4: moveBeat" + told + ", the offset wrong too", INDEX, x -> x.moveBeat(lamp, 0, -1));
        refused(scene, "5: takeBeat" + told, INDEX, x -> x.takeBeat(lamp, 0));
        refused(scene, "5: takeBeat" + told + ", the beat wrong too", INDEX, x -> x.takeBeat(lamp, 4));
        refused(scene, "6: turnShutter" + told, INDEX, x -> x.turnShutter(lamp));
    }

    private static void noSuchLampToAsk(Supplier<LanternPrimes> scene, int lamp) {
        String told = "(" + lamp + ", ..)";
        refused(scene, "11: beatsOf" + told, INDEX, x -> x.beatsOf(lamp));
        refused(scene, "12: numberOf" + told, INDEX, x -> x.numberOf(lamp, 0));
        refused(scene, "12: numberOf" + told + ", the beat wrong too", INDEX, x -> x.numberOf(lamp, 4));
        refused(scene, "13: offsetOf" + told, INDEX, x -> x.offsetOf(lamp, 0));
        refused(scene, "13: offsetOf" + told + ", the beat wrong too", INDEX, x -> x.offsetOf(lamp, -1));
        refused(scene, "14: isCovered" + told, INDEX, x -> x.isCovered(lamp));
        refused(scene, "15: isOn" + told, INDEX, x -> x.isOn(lamp));
        refused(scene, "16: isLit" + told, INDEX, x -> x.isLit(lamp));
        refused(scene, "19: isOnAt" + told, INDEX, x -> x.isOnAt(lamp, 0));
        refused(scene, "19: isOnAt" + told + ", the moment wrong too", INDEX, x -> x.isOnAt(lamp, 60001));
        refused(scene, "20: strikesAt" + told, INDEX, x -> x.strikesAt(lamp, 60000));
        refused(scene, "20: strikesAt" + told + ", the moment wrong too", INDEX, x -> x.strikesAt(lamp, -1));
        refused(scene, "21: isSteady" + told, INDEX, x -> x.isSteady(lamp));
        refused(scene, "22: cycleOf" + told, INDEX, x -> x.cycleOf(lamp));
        refused(scene, "23: momentsUntilChange" + told, INDEX, x -> x.momentsUntilChange(lamp));
        refused(scene, "24: shows" + told, INDEX, x -> x.shows(lamp, 30));
        refused(scene, "24: shows" + told + ", the moments wrong too", INDEX, x -> x.shows(lamp, 0));
    }

    /** A lamp that is not there as the first one, as the second one, and as both, "the same" too. */
    private static void noSuchLampOfTwo(Supplier<LanternPrimes> scene, int lamp) {
        refused(scene, "25: " + lamp + " first", INDEX, x -> x.momentsUntilCollision(lamp, 0));
        refused(scene, "25: " + lamp + " second", INDEX, x -> x.momentsUntilCollision(0, lamp));
        refused(scene, "25: " + lamp + " twice", INDEX, x -> x.momentsUntilCollision(lamp, lamp));
        refused(scene, "26: " + lamp + " first", INDEX, x -> x.collisionsWithin(lamp, 0, 1));
        refused(scene, "26: " + lamp + " second", INDEX, x -> x.collisionsWithin(0, lamp, 500));
        refused(scene, "26: " + lamp + " twice", INDEX, x -> x.collisionsWithin(lamp, lamp, 1));
        refused(scene, "26: " + lamp + " first, the moments wrong too", INDEX, x -> x.collisionsWithin(lamp, 0, 0));
        refused(scene, "26: " + lamp + " second, the moments wrong too", INDEX, x -> x.collisionsWithin(0, lamp, 501));
        refused(scene, "26: " + lamp + " twice, the moments wrong too", INDEX, x -> x.collisionsWithin(lamp, lamp, -1));
        refused(scene, "27: " + lamp + " first", INDEX, x -> x.momentsUntilToldApart(lamp, 0));
        refused(scene, "27: " + lamp + " second", INDEX, x -> x.momentsUntilToldApart(0, lamp));
        refused(scene, "27: " + lamp + " twice", INDEX, x -> x.momentsUntilToldApart(lamp, lamp));
    }

    /** "If there is no such .. beat", for a lamp without beats, with some, with four, with one taken. */
    private static void noSuchBeat() {
        noSuchBeats(BARE, 0, LEAST, -1, 0, 1, 4, GREATEST);
        noSuchBeats(MIXED, 0, LEAST, -1, 2, 3, GREATEST);
        noSuchBeats(MIXED, 1, LEAST, -1, 0, 3, GREATEST);
        noSuchBeats(MIXED, 3, LEAST, -1, 1, GREATEST);
        noSuchBeats(FULL, 0, LEAST, -4, -1, 4, 5, GREATEST);
        noSuchBeats(FULL, 7, LEAST, -1, 4, GREATEST);
        noSuchBeats(RefusalsTest::fullWithoutOneBeat, 7, -1, 3, 4);
    }

    private static LanternPrimes fullWithoutOneBeat() {
        LanternPrimes x = Scene.full();
        x.takeBeat(7, 0);
        return x;
    }

    private static void noSuchBeats(Supplier<LanternPrimes> scene, int lamp, int... beats) {
        for (int beat : beats) {
            String told = "(" + lamp + ", " + beat + ", ..)";
            refused(scene, "4: moveBeat" + told, INDEX, x -> x.moveBeat(lamp, beat, 0));
            refused(scene, "4: moveBeat" + told + ", the offset wrong too", INDEX, x -> x.moveBeat(lamp, beat, -1));
            refused(scene, "4: moveBeat" + told + ", the offset too far", INDEX, x -> x.moveBeat(lamp, beat, 13));
            refused(scene, "5: takeBeat" + told, INDEX, x -> x.takeBeat(lamp, beat));
            refused(scene, "12: numberOf" + told, INDEX, x -> x.numberOf(lamp, beat));
            refused(scene, "13: offsetOf" + told, INDEX, x -> x.offsetOf(lamp, beat));
        }
    }

    /** Promise 3: "if number is none of the six"; for a lamp that has 4 beats this comes first. */
    private static void noSuchNumber() {
        for (int number = -14; number <= 40; number++) {
            if (!isOfTheSix(number)) {
                noSuchNumber(number);
            }
        }
        noSuchNumber(LEAST);
        noSuchNumber(GREATEST);
    }

    private static void noSuchNumber(int number) {
        refused(MIXED, "3: addBeat(1, " + number + ", 0)", ARGUMENT, x -> x.addBeat(1, number, 0));
        refused(MIXED, "3: addBeat(1, " + number + ", -1)", ARGUMENT, x -> x.addBeat(1, number, -1));
        refused(MIXED, "3: addBeat(2, " + number + ", 0), 4 beats", ARGUMENT, x -> x.addBeat(2, number, 0));
    }

    private static boolean isOfTheSix(int number) {
        for (int one : NUMBERS) {
            if (one == number) {
                return true;
            }
        }
        return false;
    }

    /** Promise 3: "or offset is not 0 to number - 1"; for a lamp that has 4 beats this comes first. */
    private static void noSuchOffset() {
        for (int number : NUMBERS) {
            for (int offset : new int[] {LEAST, -number, -1, number, number + 1, GREATEST}) {
                String told = ", " + number + ", " + offset + ")";
                refused(MIXED, "3: addBeat(1" + told, ARGUMENT, x -> x.addBeat(1, number, offset));
                refused(MIXED, "3: addBeat(2" + told + ", 4 beats", ARGUMENT, x -> x.addBeat(2, number, offset));
            }
        }
    }

    /** Promise 4: "if offset is not 0 to one less than the number of the beat". */
    private static void noSuchOffsetToMoveTo() {
        for (int number : NUMBERS) {
            Supplier<LanternPrimes> scene = () -> Scene.lamp(true, 13, 12, number, 1, 2, 0, number, 0);
            for (int offset : new int[] {LEAST, -1, number, number + 1, GREATEST}) {
                String told = ", " + offset + ") of " + number;
                refused(scene, "4: moveBeat(0, 1" + told, ARGUMENT, x -> x.moveBeat(0, 1, offset));
                refused(scene, "4: moveBeat(0, 3" + told, ARGUMENT, x -> x.moveBeat(0, 3, offset));
            }
        }
    }

    /** Promise 3: "if the lamp has 4". */
    private static void aFifthBeat() {
        for (int number : NUMBERS) {
            refused(FULL, "3: addBeat(0, " + number + ", 0), 4 beats", STATE, x -> x.addBeat(0, number, 0));
            refused(FULL, "3: addBeat(7, " + number + ", last), 4 beats", STATE, x -> x.addBeat(7, number, number - 1));
            refused(MIXED, "3: addBeat(2, " + number + ", 1), 4 beats", STATE, x -> x.addBeat(2, number, 1));
        }
        refused(() -> Scene.lamp(false, 5, 1, 5, 1, 5, 1, 5, 1), "3: addBeat, 4 times the same", STATE,
                x -> x.addBeat(0, 5, 1));
    }

    /** Promises 7, 29, 30: "if moments is not 1 to 500", 31: "not 1 to 200"; without lamps, too. */
    private static void momentsOfAll() {
        for (Supplier<LanternPrimes> scene : List.of(EMPTY, MIXED, FULL)) {
            for (int moments : NOT_1_TO_500) {
                String told = "(" + moments + ")";
                refused(scene, "7: pass" + told, ARGUMENT, x -> x.pass(moments));
                refused(scene, "29: darkWithin" + told, ARGUMENT, x -> x.darkWithin(moments));
                refused(scene, "30: brightestWithin" + told, ARGUMENT, x -> x.brightestWithin(moments));
            }
            for (int moments : NOT_1_TO_200) {
                refused(scene, "31: bestCover(" + moments + ")", ARGUMENT, x -> x.bestCover(moments));
            }
        }
    }

    /** Promises 19 and 20: "if moment is not 0 to 60000", 24: "if moments is not 1 to 30". */
    private static void momentsOfOneLamp() {
        for (int moment : NOT_0_TO_60000) {
            refused(MIXED, "19: isOnAt(1, " + moment + ")", ARGUMENT, x -> x.isOnAt(1, moment));
            refused(FULL, "19: isOnAt(7, " + moment + ")", ARGUMENT, x -> x.isOnAt(7, moment));
            refused(MIXED, "20: strikesAt(1, " + moment + ")", ARGUMENT, x -> x.strikesAt(1, moment));
            refused(FULL, "20: strikesAt(7, " + moment + ")", ARGUMENT, x -> x.strikesAt(7, moment));
        }
        for (int moments : NOT_1_TO_30) {
            refused(MIXED, "24: shows(1, " + moments + ")", ARGUMENT, x -> x.shows(1, moments));
            refused(FULL, "24: shows(7, " + moments + ")", ARGUMENT, x -> x.shows(7, moments));
        }
    }

    /** Promise 26: "or moments is not 1 to 500". */
    private static void momentsOfTwoLamps() {
        for (int moments : NOT_1_TO_500) {
            refused(MIXED, "26: collisionsWithin(0, 3, " + moments + ")", ARGUMENT, x -> x.collisionsWithin(0, 3, moments));
            refused(FULL, "26: collisionsWithin(7, 0, " + moments + ")", ARGUMENT, x -> x.collisionsWithin(7, 0, moments));
        }
    }

    /** Promises 25 to 27: "if both are the same". */
    private static void theSameLampTwice() {
        for (int lamp = 0; lamp < 8; lamp++) {
            int both = lamp;
            refused(FULL, "25: the same, " + lamp, ARGUMENT, x -> x.momentsUntilCollision(both, both));
            refused(FULL, "26: the same, " + lamp, ARGUMENT, x -> x.collisionsWithin(both, both, 500));
            refused(FULL, "26: the same, moments wrong too", ARGUMENT, x -> x.collisionsWithin(both, both, 0));
            refused(FULL, "27: the same, " + lamp, ARGUMENT, x -> x.momentsUntilToldApart(both, both));
        }
        refused(BARE, "25: the only one twice", ARGUMENT, x -> x.momentsUntilCollision(0, 0));
        refused(BARE, "26: the only one twice", ARGUMENT, x -> x.collisionsWithin(0, 0, 1));
        refused(BARE, "27: the only one twice", ARGUMENT, x -> x.momentsUntilToldApart(0, 0));
    }
}
