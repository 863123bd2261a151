/** Promises 1 to 7: a new object, and the calls that change it. */
public final class LampsTest {
    private static final int[] NUMBERS = {2, 3, 5, 7, 11, 13};

    private static final Check CHECK = new Check();

    public static void main(String[] args) {
        newObject();
        addLamp();
        addBeat();
        moveBeat();
        takeBeat();
        turnShutter();
        pass();
        objectsStandAlone();
        CHECK.end();
    }

    private static void newObject() {
        LanternPrimes x = new LanternPrimes();
        CHECK.due("1: lamps()", x.lamps(), 0);
        CHECK.due("1: now()", x.now(), 0);
        CHECK.due("1: changesSeen()", x.changesSeen(), 0);
        CHECK.due("1: litLamps()", x.litLamps(), 0);
        CHECK.due("1: isDark()", x.isDark(), true);
        CHECK.due("1: digest()", x.digest(), 1889L * 31 * 31 * 31 * 31);
    }

    private static void addLamp() {
        LanternPrimes x = new LanternPrimes();
        for (int lamp = 0; lamp < 8; lamp++) {
            boolean on = lamp % 3 == 0;
            CHECK.due("2: addLamp", x.addLamp(on), lamp);
            CHECK.due("2: lamps()", x.lamps(), lamp + 1);
            CHECK.due("2: isOn", x.isOn(lamp), on);
            CHECK.due("2: isCovered", x.isCovered(lamp), false);
            CHECK.due("2: beatsOf", x.beatsOf(lamp), 0);
        }
    }

    private static void addBeat() {
        for (int number : NUMBERS) {
            LanternPrimes x = new LanternPrimes();
            x.addLamp(false);
            CHECK.due("3: addBeat, first offset", x.addBeat(0, number, 0), 0);
            CHECK.due("3: addBeat, last offset", x.addBeat(0, number, number - 1), 1);
            CHECK.due("3: addBeat, the same again", x.addBeat(0, number, 0), 2);
            CHECK.due("3: addBeat, the fourth", x.addBeat(0, 7, 4), 3);
            CHECK.due("3: numberOf(0, 1)", x.numberOf(0, 1), number);
            CHECK.due("3: offsetOf(0, 1)", x.offsetOf(0, 1), number - 1);
            CHECK.due("3: numberOf(0, 3)", x.numberOf(0, 3), 7);
            CHECK.due("3: offsetOf(0, 3)", x.offsetOf(0, 3), 4);
        }
        LanternPrimes late = new LanternPrimes();
        late.addLamp(false);
        late.pass(4);
        late.addBeat(0, 3, 1);
        // Strikes at 1 and 4: the beat counts as if it had been there from the moment 0 on.
        CHECK.due("3: isOn behind a late beat", late.isOn(0), false);
        CHECK.due("3: isOnAt(0, 1) behind a late beat", late.isOnAt(0, 1), true);
        CHECK.due("3: changesSeen() stays", late.changesSeen(), 0);
    }

    private static void moveBeat() {
        LanternPrimes x = new LanternPrimes();
        x.addLamp(false);
        x.addBeat(0, 5, 3);
        x.addBeat(0, 13, 7);
        CHECK.due("4: moveBeat(0, 1, 12)", x.moveBeat(0, 1, 12), 7);
        CHECK.due("4: moveBeat(0, 1, 0)", x.moveBeat(0, 1, 0), 12);
        CHECK.due("4: moveBeat(0, 1, 0), as it is", x.moveBeat(0, 1, 0), 0);
        CHECK.due("4: offsetOf(0, 1)", x.offsetOf(0, 1), 0);
        CHECK.due("4: numberOf(0, 1)", x.numberOf(0, 1), 13);
        CHECK.due("4: offsetOf(0, 0)", x.offsetOf(0, 0), 3);
        CHECK.due("4: isOn(0)", x.isOn(0), true);
    }

    private static void takeBeat() {
        LanternPrimes x = new LanternPrimes();
        x.addLamp(false);
        x.addBeat(0, 2, 1);
        x.addBeat(0, 3, 2);
        x.addBeat(0, 5, 3);
        x.addBeat(0, 7, 4);
        CHECK.due("5: takeBeat(0, 1)", x.takeBeat(0, 1), 3);
        int[] left = {2, 5, 7};
        int[] leftOffsets = {1, 3, 4};
        for (int beat = 0; beat < 3; beat++) {
            CHECK.due("5: numberOf behind it", x.numberOf(0, beat), left[beat]);
            CHECK.due("5: offsetOf behind it", x.offsetOf(0, beat), leftOffsets[beat]);
        }
        CHECK.due("5: takeBeat, the last", x.takeBeat(0, 2), 2);
        // Of 2:1, 5:3 and 7:4, which is taken, none strikes at 4.
        CHECK.due("5: strikesAt(0, 4) without the last", x.strikesAt(0, 4), 0);
        CHECK.due("5: isOnAt(0, 4) without the last", x.isOnAt(0, 4), true);
        CHECK.due("5: takeBeat, the first", x.takeBeat(0, 0), 1);
        CHECK.due("5: numberOf(0, 0)", x.numberOf(0, 0), 5);
        CHECK.due("5: takeBeat, the only one", x.takeBeat(0, 0), 0);
        CHECK.due("5: isSteady without beats", x.isSteady(0), true);
        CHECK.due("5: addBeat behind it", x.addBeat(0, 11, 10), 0);
        CHECK.due("5: numberOf behind that", x.numberOf(0, 0), 11);
    }

    private static void turnShutter() {
        LanternPrimes x = new LanternPrimes();
        x.addLamp(true);
        x.addLamp(true);
        x.addBeat(1, 2, 1);
        CHECK.due("6: turnShutter(1)", x.turnShutter(1), true);
        CHECK.due("6: isCovered(1)", x.isCovered(1), true);
        CHECK.due("6: isCovered(0)", x.isCovered(0), false);
        x.pass(1);
        CHECK.due("6: isOn(1), it goes on turning", x.isOn(1), false);
        CHECK.due("6: turnShutter(1) again", x.turnShutter(1), false);
        CHECK.due("6: isCovered(1) again", x.isCovered(1), false);
    }

    private static void pass() {
        LanternPrimes x = new LanternPrimes();
        CHECK.due("7: pass(1) without lamps", x.pass(1), 0);
        CHECK.due("7: now()", x.now(), 1);
        x.addLamp(false);
        x.addBeat(0, 2, 1);
        // It strikes now, at 1: that one is not counted. At 3 it is.
        CHECK.due("7: pass(1)", x.pass(1), 0);
        CHECK.due("7: pass(1) again", x.pass(1), 1);
        x.addLamp(true);
        x.addBeat(1, 3, 1);
        x.addBeat(1, 2, 0);
        x.turnShutter(1);
        // 4: both beats of lamp 1, no change. 5: lamp 0. 6: lamp 1. 7: both lamps. 8: lamp 1.
        CHECK.due("7: pass(5), covered lamps as well", x.pass(5), 5);
        CHECK.due("7: now() behind it", x.now(), 8);
        CHECK.due("7: changesSeen()", x.changesSeen(), 6);
        // 250 times lamp 0; lamp 1 at 250 even moments and 167 others by 3, less 84 at which both strike.
        CHECK.due("7: pass(500)", x.pass(500), 250 + 250 + 167 - 2 * 84);
        CHECK.due("7: now() behind that", x.now(), 508);
    }

    private static void objectsStandAlone() {
        LanternPrimes x = new LanternPrimes();
        LanternPrimes y = new LanternPrimes();
        x.addLamp(true);
        x.addBeat(0, 2, 0);
        x.pass(9);
        CHECK.due("1: lamps() of another object", y.lamps(), 0);
        CHECK.due("1: now() of another object", y.now(), 0);
        y.addLamp(true);
        CHECK.due("1: beatsOf(0) of another object", y.beatsOf(0), 0);
    }
}
