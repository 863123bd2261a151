/** Promises 19 to 24: what one lamp does at other moments. */
public final class LampsByThemselvesTest {
    private static final Check CHECK = new Check();

    public static void main(String[] args) {
        isOnAt();
        strikesAt();
        steady();
        cycles();
        longCycles();
        untilChange();
        shows();
        CHECK.end();
    }

    private static void isOnAt() {
        LanternPrimes x = Scene.lamp(false, 3, 2, 2, 0);
        // Strikes at 0, 2 (both), 4, 5, 6, 8 (both), 10, 11, 12.
        boolean[] on = {true, true, true, true, false, true, false, false, false, false, true, false, true};
        x.pass(7);
        x.turnShutter(0);
        for (int moment = 0; moment < on.length; moment++) {
            CHECK.due("19: isOnAt(0, " + moment + ")", x.isOnAt(0, moment), on[moment]);
        }
        LanternPrimes far = Scene.lamp(true, 13, 5);
        // 60000 is 13 * 4615 + 5: the strike number 4616 is at this moment.
        CHECK.due("19: isOnAt(0, 59999)", far.isOnAt(0, 59999), false);
        CHECK.due("19: isOnAt(0, 60000)", far.isOnAt(0, 60000), true);
    }

    private static void strikesAt() {
        LanternPrimes x = Scene.lamp(false, 2, 0, 3, 0, 5, 0, 5, 0);
        CHECK.due("20: strikesAt(0, 0)", x.strikesAt(0, 0), 4);
        CHECK.due("20: strikesAt(0, 1)", x.strikesAt(0, 1), 0);
        CHECK.due("20: strikesAt(0, 2)", x.strikesAt(0, 2), 1);
        CHECK.due("20: strikesAt(0, 5)", x.strikesAt(0, 5), 2);
        CHECK.due("20: strikesAt(0, 10)", x.strikesAt(0, 10), 3);
        CHECK.due("20: strikesAt(0, 59999)", x.strikesAt(0, 59999), 0);
        CHECK.due("20: strikesAt(0, 60000)", x.strikesAt(0, 60000), 4);
        CHECK.due("20: strikesAt without beats", Scene.lamp(true).strikesAt(0, 0), 0);
    }

    private static void steady() {
        CHECK.due("21: isSteady without beats", Scene.lamp(true).isSteady(0), true);
        CHECK.due("21: isSteady, one beat", Scene.lamp(true, 13, 12).isSteady(0), false);
        CHECK.due("21: isSteady, twice the same", Scene.lamp(true, 5, 2, 5, 2).isSteady(0), true);
        CHECK.due("21: isSteady, two pairs", Scene.lamp(true, 5, 2, 7, 2, 7, 2, 5, 2).isSteady(0), true);
        CHECK.due("21: isSteady, three times the same", Scene.lamp(true, 5, 2, 5, 2, 5, 2).isSteady(0), false);
        CHECK.due("21: isSteady, four times the same", Scene.lamp(true, 5, 2, 5, 2, 5, 2, 5, 2).isSteady(0), true);
        CHECK.due("21: isSteady, the same offset only", Scene.lamp(true, 5, 2, 7, 2).isSteady(0), false);
        CHECK.due("21: isSteady, the same number only", Scene.lamp(true, 5, 2, 5, 1).isSteady(0), false);
        CHECK.due("21: isSteady, turned at each moment", Scene.lamp(true, 2, 0, 2, 1).isSteady(0), false);
        CHECK.due("21: isSteady, turned twice at each moment",
                Scene.lamp(true, 2, 0, 2, 1, 2, 1, 2, 0).isSteady(0), true);
    }

    private static void cycles() {
        CHECK.due("22: cycleOf without beats", Scene.lamp(true).cycleOf(0), 1);
        CHECK.due("22: cycleOf, 2", Scene.lamp(false, 2, 1).cycleOf(0), 4);
        CHECK.due("22: cycleOf, 13", Scene.lamp(false, 13, 12).cycleOf(0), 26);
        CHECK.due("22: cycleOf, twice the same", Scene.lamp(false, 7, 1, 7, 1).cycleOf(0), 1);
        CHECK.due("22: cycleOf, two of 7", Scene.lamp(false, 7, 1, 7, 2).cycleOf(0), 7);
        CHECK.due("22: cycleOf, three of 7", Scene.lamp(false, 7, 1, 7, 2, 7, 3).cycleOf(0), 14);
        CHECK.due("22: cycleOf, four of 7", Scene.lamp(false, 7, 1, 7, 2, 7, 3, 7, 6).cycleOf(0), 7);
        CHECK.due("22: cycleOf, each moment by 2", Scene.lamp(false, 2, 0, 2, 1).cycleOf(0), 2);
        CHECK.due("22: cycleOf, each moment by 3", Scene.lamp(false, 3, 0, 3, 1, 3, 2).cycleOf(0), 2);
        CHECK.due("22: cycleOf, each but one in 7", Scene.lamp(false, 2, 0, 2, 1, 7, 4).cycleOf(0), 7);
        CHECK.due("22: cycleOf, each but one in 13", Scene.lamp(false, 3, 0, 3, 1, 3, 2, 13, 4).cycleOf(0), 13);
        CHECK.due("22: cycleOf, each but one in 2", Scene.lamp(false, 3, 0, 3, 1, 3, 2, 2, 1).cycleOf(0), 4);
        CHECK.due("22: cycleOf, 2 and 3", Scene.lamp(false, 2, 0, 3, 1).cycleOf(0), 12);
        CHECK.due("22: cycleOf, 3 and 5", Scene.lamp(false, 3, 0, 5, 1).cycleOf(0), 15);
    }

    private static void longCycles() {
        CHECK.due("22: cycleOf, 5, 7, 11, 13", Scene.lamp(true, 5, 4, 7, 6, 11, 10, 13, 12).cycleOf(0), 5005);
        CHECK.due("22: cycleOf, 7, 11, 13", Scene.lamp(true, 7, 6, 11, 10, 13, 12).cycleOf(0), 2002);
        CHECK.due("22: cycleOf, 2, 7, 11, 13", Scene.lamp(true, 2, 0, 7, 6, 11, 10, 13, 12).cycleOf(0), 4004);
        LanternPrimes x = Scene.lamp(true, 2, 0, 7, 6, 11, 10, 13, 12);
        x.pass(500);
        CHECK.due("22: cycleOf, the same later", x.cycleOf(0), 4004);
    }

    private static void untilChange() {
        CHECK.due("23: momentsUntilChange without beats", Scene.lamp(true).momentsUntilChange(0), -1);
        CHECK.due("23: momentsUntilChange, steady", Scene.lamp(true, 3, 1, 3, 1).momentsUntilChange(0), -1);
        CHECK.due("23: momentsUntilChange, the one of now not", Scene.lamp(true, 13, 0).momentsUntilChange(0), 13);
        CHECK.due("23: momentsUntilChange, the last", Scene.lamp(true, 13, 12).momentsUntilChange(0), 12);
        CHECK.due("23: momentsUntilChange, the next", Scene.lamp(true, 13, 1).momentsUntilChange(0), 1);
        CHECK.due("23: momentsUntilChange, two at once", Scene.lamp(true, 2, 1, 3, 1).momentsUntilChange(0), 3);
        CHECK.due("23: momentsUntilChange, each moment", Scene.lamp(true, 2, 1, 2, 0).momentsUntilChange(0), 1);
        LanternPrimes x = Scene.lamp(true, 13, 0);
        x.turnShutter(0);
        x.pass(15);
        CHECK.due("23: momentsUntilChange from 15 on", x.momentsUntilChange(0), 11);
    }

    private static void shows() {
        LanternPrimes x = Scene.lamp(true, 5, 2);
        CHECK.due("24: shows(0, 1)", x.shows(0, 1), 1);
        CHECK.due("24: shows(0, 12)", x.shows(0, 12), 0b110000011111);
        x.turnShutter(0);
        x.pass(6);
        CHECK.due("24: shows(0, 3) from 6 on, covered", x.shows(0, 3), 0b011);
        CHECK.due("24: shows(0, 30), all on", Scene.lamp(true).shows(0, 30), (1 << 30) - 1);
        CHECK.due("24: shows(0, 30), all off", Scene.lamp(false).shows(0, 30), 0);
    }
}
