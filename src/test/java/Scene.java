/** Objects to begin a test with. Each call makes a new one, as an object serves for 512 calls. */
final class Scene {
    private static final int[] NUMBERS = {2, 3, 5, 7, 11, 13};

    private Scene() {
    }

    /** Lamps without beats, on or off at their start. */
    static LanternPrimes lamps(boolean... on) {
        LanternPrimes x = new LanternPrimes();
        for (boolean each : on) {
            x.addLamp(each);
        }
        return x;
    }

    /** One lamp with beats, told as number and offset by turns. */
    static LanternPrimes lamp(boolean on, int... beats) {
        LanternPrimes x = lamps(on);
        addBeats(x, 0, beats);
        return x;
    }

    static void addBeats(LanternPrimes x, int lamp, int... beats) {
        for (int i = 0; i + 1 < beats.length; i += 2) {
            x.addBeat(lamp, beats[i], beats[i + 1]);
        }
    }

    /** At 37: lamp 0 with two beats, lamp 1 without any and covered, lamp 2 with four, lamp 3 with one. */
    static LanternPrimes mixed() {
        LanternPrimes x = lamps(true, false, true, false);
        addBeats(x, 0, 5, 3, 13, 3);
        addBeats(x, 2, 2, 1, 7, 0, 7, 6, 11, 4);
        addBeats(x, 3, 3, 2);
        x.turnShutter(1);
        x.pass(37);
        return x;
    }

    /** At 501: all eight lamps with four beats each, three of them covered; all six numbers are there. */
    static LanternPrimes full() {
        LanternPrimes x = new LanternPrimes();
        for (int lamp = 0; lamp < 8; lamp++) {
            x.addLamp(lamp % 3 == 1);
            for (int beat = 0; beat < 4; beat++) {
                int number = NUMBERS[(lamp + beat) % 6];
                x.addBeat(lamp, number, (3 * lamp + beat) % number);
            }
        }
        x.turnShutter(0);
        x.turnShutter(3);
        x.turnShutter(7);
        x.pass(500);
        x.pass(1);
        return x;
    }
}
