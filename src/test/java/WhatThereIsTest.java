/** Promises 8 to 18: what there is now. */
public final class WhatThereIsTest {
    private static final Check CHECK = new Check();

    public static void main(String[] args) {
        lampsNowAndChangesSeen();
        beats();
        covered();
        onAndLit();
        litLampsAndDark();
        CHECK.end();
    }

    private static void lampsNowAndChangesSeen() {
        LanternPrimes x = new LanternPrimes();
        x.addLamp(false);
        x.addLamp(false);
        x.addBeat(1, 3, 0);
        CHECK.due("8: lamps()", x.lamps(), 2);
        CHECK.due("9: now() at the start", x.now(), 0);
        CHECK.due("10: changesSeen(), none of the moment 0", x.changesSeen(), 0);
        x.pass(3);
        CHECK.due("9: now()", x.now(), 3);
        CHECK.due("10: changesSeen()", x.changesSeen(), 1);
        x.pass(500);
        CHECK.due("9: now() behind 500 more", x.now(), 503);
        CHECK.due("10: changesSeen() behind 500 more", x.changesSeen(), 167);
        x.takeBeat(1, 0);
        CHECK.due("10: changesSeen() without the beat", x.changesSeen(), 167);
        x.darkWithin(500);
        x.shows(0, 30);
        CHECK.due("9: now() is not passed by asking", x.now(), 503);
    }

    private static void beats() {
        LanternPrimes x = new LanternPrimes();
        x.addLamp(false);
        x.addLamp(false);
        x.addBeat(1, 11, 10);
        x.addBeat(1, 2, 1);
        CHECK.due("11: beatsOf(0)", x.beatsOf(0), 0);
        CHECK.due("11: beatsOf(1)", x.beatsOf(1), 2);
        CHECK.due("12: numberOf(1, 0)", x.numberOf(1, 0), 11);
        CHECK.due("12: numberOf(1, 1)", x.numberOf(1, 1), 2);
        CHECK.due("13: offsetOf(1, 0)", x.offsetOf(1, 0), 10);
        CHECK.due("13: offsetOf(1, 1)", x.offsetOf(1, 1), 1);
    }

    private static void covered() {
        LanternPrimes x = new LanternPrimes();
        x.addLamp(true);
        CHECK.due("14: isCovered at first", x.isCovered(0), false);
        x.turnShutter(0);
        CHECK.due("14: isCovered", x.isCovered(0), true);
    }

    private static void onAndLit() {
        LanternPrimes x = new LanternPrimes();
        x.addLamp(false);
        x.addLamp(true);
        x.addBeat(0, 2, 0);
        x.addBeat(1, 5, 0);
        x.addBeat(1, 5, 0);
        CHECK.due("15: isOn(0), behind the strike of the moment 0", x.isOn(0), true);
        CHECK.due("15: isOn(1), two strikes at once", x.isOn(1), true);
        x.addBeat(1, 3, 0);
        CHECK.due("15: isOn(1), three strikes at once", x.isOn(1), false);
        CHECK.due("16: isLit(0)", x.isLit(0), true);
        CHECK.due("16: isLit(1), it is off", x.isLit(1), false);
        x.turnShutter(0);
        CHECK.due("15: isOn(0), covered", x.isOn(0), true);
        CHECK.due("16: isLit(0), covered", x.isLit(0), false);
        x.pass(2);
        CHECK.due("15: isOn(0) at 2", x.isOn(0), false);
        x.turnShutter(0);
        CHECK.due("16: isLit(0) at 2", x.isLit(0), false);
    }

    private static void litLampsAndDark() {
        LanternPrimes x = new LanternPrimes();
        CHECK.due("17: litLamps() without lamps", x.litLamps(), 0);
        CHECK.due("18: isDark() without lamps", x.isDark(), true);
        for (int lamp = 0; lamp < 8; lamp++) {
            x.addLamp(true);
        }
        CHECK.due("17: litLamps(), all", x.litLamps(), 8);
        CHECK.due("18: isDark(), all lit", x.isDark(), false);
        for (int lamp = 1; lamp < 8; lamp++) {
            x.turnShutter(lamp);
        }
        CHECK.due("18: isDark(), lamp 0 lit alone", x.isDark(), false);
        x.turnShutter(0);
        CHECK.due("18: isDark(), all covered", x.isDark(), true);
        x.turnShutter(7);
        CHECK.due("17: litLamps(), one", x.litLamps(), 1);
        CHECK.due("18: isDark(), one lit", x.isDark(), false);
        x.addBeat(7, 13, 0);
        CHECK.due("17: litLamps(), all covered or off", x.litLamps(), 0);
        CHECK.due("18: isDark(), all covered or off", x.isDark(), true);
    }
}
