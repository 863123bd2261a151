/** Promises 25 to 33: what several lamps do together. */
public final class LampsTogetherTest {
    private static final Check CHECK = new Check();

    public static void main(String[] args) {
        collisions();
        farCollisions();
        toldApart();
        neverToldApart();
        toldApartByEightBeats();
        untilDark();
        darkWithin();
        brightest();
        bestCover();
        bestCoverChangesNothing();
        meanBeats();
        digest();
        CHECK.end();
    }

    private static void collisions() {
        LanternPrimes x = Scene.lamps(false, true);
        CHECK.due("25: momentsUntilCollision without beats", x.momentsUntilCollision(0, 1), -1);
        CHECK.due("26: collisionsWithin without beats", x.collisionsWithin(0, 1, 500), 0);
        x.addBeat(0, 2, 0);
        x.addBeat(1, 3, 0);
        x.turnShutter(0);
        CHECK.due("25: momentsUntilCollision, the one of now not", x.momentsUntilCollision(0, 1), 6);
        CHECK.due("25: momentsUntilCollision(1, 0)", x.momentsUntilCollision(1, 0), 6);
        CHECK.due("26: collisionsWithin(0, 1, 5)", x.collisionsWithin(0, 1, 5), 0);
        CHECK.due("26: collisionsWithin(0, 1, 6)", x.collisionsWithin(0, 1, 6), 1);
        CHECK.due("26: collisionsWithin(1, 0, 500)", x.collisionsWithin(1, 0, 500), 83);
        x.pass(5);
        CHECK.due("25: momentsUntilCollision at 5", x.momentsUntilCollision(0, 1), 1);
        CHECK.due("26: collisionsWithin(0, 1, 1) at 5", x.collisionsWithin(0, 1, 1), 1);
        x.addBeat(1, 3, 0);
        CHECK.due("25: momentsUntilCollision, two strikes at once", x.momentsUntilCollision(0, 1), -1);
    }

    private static void farCollisions() {
        LanternPrimes x = Scene.lamps(false, false);
        x.addBeat(0, 13, 0);
        x.addBeat(1, 11, 0);
        CHECK.due("25: momentsUntilCollision, 143", x.momentsUntilCollision(0, 1), 143);
        LanternPrimes y = Scene.lamps(false, false);
        y.addBeat(0, 2, 0);
        y.addBeat(1, 2, 1);
        CHECK.due("25: momentsUntilCollision, never", y.momentsUntilCollision(0, 1), -1);
        CHECK.due("26: collisionsWithin, never", y.collisionsWithin(0, 1, 500), 0);
    }

    private static void toldApart() {
        LanternPrimes x = Scene.lamps(true, false);
        CHECK.due("27: momentsUntilToldApart, now", x.momentsUntilToldApart(0, 1), 0);
        x.turnShutter(0);
        CHECK.due("27: momentsUntilToldApart, now, covered", x.momentsUntilToldApart(1, 0), 0);
        x.addBeat(1, 13, 0);
        CHECK.due("27: momentsUntilToldApart, one beat", x.momentsUntilToldApart(0, 1), 13);
        CHECK.due("27: momentsUntilToldApart(1, 0)", x.momentsUntilToldApart(1, 0), 13);
        x.addBeat(0, 13, 0);
        CHECK.due("27: momentsUntilToldApart, now again", x.momentsUntilToldApart(0, 1), 0);
        LanternPrimes y = Scene.lamps(false, false);
        y.addBeat(0, 3, 1);
        y.addBeat(1, 5, 1);
        CHECK.due("27: momentsUntilToldApart at 0", y.momentsUntilToldApart(0, 1), 4);
        y.pass(3);
        CHECK.due("27: momentsUntilToldApart at 3", y.momentsUntilToldApart(0, 1), 1);
    }

    private static void neverToldApart() {
        LanternPrimes x = Scene.lamps(true, true);
        CHECK.due("27: momentsUntilToldApart without beats", x.momentsUntilToldApart(0, 1), -1);
        x.addBeat(0, 2, 0);
        x.addBeat(0, 2, 1);
        x.addBeat(1, 3, 0);
        x.addBeat(1, 3, 1);
        x.addBeat(1, 3, 2);
        CHECK.due("27: momentsUntilToldApart, both at each moment", x.momentsUntilToldApart(0, 1), -1);
        x.addBeat(0, 13, 7);
        CHECK.due("27: momentsUntilToldApart, one more beat", x.momentsUntilToldApart(0, 1), 7);
        x.addBeat(1, 13, 7);
        CHECK.due("27: momentsUntilToldApart, both more", x.momentsUntilToldApart(0, 1), -1);
        x.addBeat(0, 11, 3);
        CHECK.due("27: momentsUntilToldApart, a beat of one lamp", x.momentsUntilToldApart(0, 1), 3);
        x.takeBeat(0, 3);
        CHECK.due("27: momentsUntilToldApart, it is taken", x.momentsUntilToldApart(0, 1), -1);
        // The comparison of two lamps leaves nothing behind for the next one.
        x.addLamp(true);
        CHECK.due("27: momentsUntilToldApart(0, 2)", x.momentsUntilToldApart(0, 2), 0);
        CHECK.due("27: momentsUntilToldApart(0, 1) behind it", x.momentsUntilToldApart(0, 1), -1);
    }

    private static void toldApartByEightBeats() {
        LanternPrimes x = Scene.lamps(false, false);
        for (int lamp = 0; lamp < 2; lamp++) {
            x.addBeat(lamp, 3, 1);
            x.addBeat(lamp, 5, 2);
            x.addBeat(lamp, 7, 3);
            x.addBeat(lamp, 13, 12);
        }
        CHECK.due("27: momentsUntilToldApart, four beats each", x.momentsUntilToldApart(0, 1), -1);
        x.moveBeat(1, 3, 11);
        CHECK.due("27: momentsUntilToldApart, the last moved", x.momentsUntilToldApart(0, 1), 11);
    }

    private static void untilDark() {
        LanternPrimes x = new LanternPrimes();
        CHECK.due("28: momentsUntilDark() without lamps", x.momentsUntilDark(), 0);
        x.addLamp(true);
        CHECK.due("28: momentsUntilDark(), always lit", x.momentsUntilDark(), -1);
        x.turnShutter(0);
        CHECK.due("28: momentsUntilDark(), covered", x.momentsUntilDark(), 0);
        x.turnShutter(0);
        x.addBeat(0, 7, 3);
        CHECK.due("28: momentsUntilDark() at 0", x.momentsUntilDark(), 3);
        x.pass(10);
        CHECK.due("28: momentsUntilDark() at 10", x.momentsUntilDark(), 7);
    }

    private static void darkWithin() {
        LanternPrimes x = new LanternPrimes();
        CHECK.due("29: darkWithin(1) without lamps", x.darkWithin(1), 1);
        CHECK.due("29: darkWithin(500) without lamps", x.darkWithin(500), 500);
        x.addLamp(false);
        x.addBeat(0, 2, 1);
        // Off at 0, on at 1 and 2, off at 3 and 4, and so on; the one of now is not counted.
        CHECK.due("29: darkWithin(2)", x.darkWithin(2), 0);
        CHECK.due("29: darkWithin(3)", x.darkWithin(3), 1);
        CHECK.due("29: darkWithin(500)", x.darkWithin(500), 250);
        x.addLamp(true);
        CHECK.due("29: darkWithin(500), always lit", x.darkWithin(500), 0);
        x.turnShutter(1);
        CHECK.due("29: darkWithin(500), covered", x.darkWithin(500), 250);
        x.pass(2);
        CHECK.due("29: darkWithin(2) at 2", x.darkWithin(2), 2);
    }

    private static void brightest() {
        LanternPrimes x = new LanternPrimes();
        CHECK.due("30: brightestWithin(1) without lamps", x.brightestWithin(1), 1);
        CHECK.due("30: brightestWithin(500) without lamps", x.brightestWithin(500), 1);
        x.addLamp(false);
        x.addLamp(true);
        x.addBeat(0, 5, 4);
        x.addBeat(1, 3, 2);
        // Lamp 0 is on from 4 to 8, lamp 1 up to 1 and from 5 to 7: both at 5, 6 and 7.
        CHECK.due("30: brightestWithin(4)", x.brightestWithin(4), 1);
        CHECK.due("30: brightestWithin(5)", x.brightestWithin(5), 5);
        CHECK.due("30: brightestWithin(500), of several the first", x.brightestWithin(500), 5);
        x.pass(5);
        CHECK.due("30: brightestWithin(9) at 5, the one of now not", x.brightestWithin(9), 1);
        x.turnShutter(1);
        x.pass(3);
        CHECK.due("30: brightestWithin(9) at 8, covered", x.brightestWithin(9), 6);
        x.pass(4);
        CHECK.due("30: brightestWithin(2) at 12, the last", x.brightestWithin(2), 2);
    }

    private static void bestCover() {
        LanternPrimes x = new LanternPrimes();
        CHECK.due("31: bestCover(1) without lamps", x.bestCover(1), -1);
        x.addLamp(true);
        x.addLamp(true);
        x.addLamp(true);
        CHECK.due("31: bestCover(200), of several the smallest", x.bestCover(200), 0);
        x.turnShutter(0);
        CHECK.due("31: bestCover(200), not the covered one", x.bestCover(200), 1);
        x.addBeat(1, 2, 1);
        CHECK.due("31: bestCover(200), the one that stays lit", x.bestCover(200), 2);
        x.turnShutter(2);
        CHECK.due("31: bestCover(200), the last", x.bestCover(200), 1);
        x.turnShutter(1);
        CHECK.due("31: bestCover(200), all covered", x.bestCover(200), -1);
        LanternPrimes y = Scene.lamps(false, false);
        y.addBeat(0, 13, 1);
        y.addBeat(1, 13, 2);
        // Lamp 0 is lit from 1 on, lamp 1 from 2 on.
        CHECK.due("31: bestCover(1)", y.bestCover(1), 0);
        y.pass(1);
        // Now both are lit up to 13; lamp 1 is lit at 14 alone.
        CHECK.due("31: bestCover(13) at 1", y.bestCover(13), 1);
    }

    private static void bestCoverChangesNothing() {
        LanternPrimes x = Scene.lamps(true, true);
        x.addBeat(0, 3, 1);
        long before = x.digest();
        x.bestCover(200);
        CHECK.due("31: digest() behind bestCover", x.digest(), before);
        CHECK.due("31: isCovered(0)", x.isCovered(0), false);
        CHECK.due("31: isCovered(1)", x.isCovered(1), false);
    }

    private static void meanBeats() {
        LanternPrimes x = new LanternPrimes();
        CHECK.due("32: meanBeats() without lamps", x.meanBeats(), 0.0);
        x.addLamp(true);
        CHECK.due("32: meanBeats() without beats", x.meanBeats(), 0.0);
        x.addBeat(0, 2, 0);
        x.addBeat(0, 2, 0);
        CHECK.due("32: meanBeats(), 2 of 1", x.meanBeats(), 2.0);
        x.addLamp(true);
        x.addLamp(true);
        CHECK.due("32: meanBeats(), 2 of 3", x.meanBeats(), 2.0 / 3);
        x.takeBeat(0, 0);
        CHECK.due("32: meanBeats(), 1 of 3", x.meanBeats(), 1.0 / 3);
        for (int lamp = 3; lamp < 8; lamp++) {
            x.addLamp(false);
        }
        CHECK.due("32: meanBeats(), 1 of 8", x.meanBeats(), 0.125);
    }

    private static void digest() {
        LanternPrimes x = Scene.lamps(false, true);
        x.addBeat(0, 2, 0);
        x.addBeat(0, 3, 1);
        x.turnShutter(1);
        x.pass(4);
        // Lamp 0 changes at 0, 1 and 2, not at 4 (two strikes), so it is on; 2 changes were told.
        long[] told = {2, 4, 2, 1, 2, 0, 1, 0, 12, 2, 2, 0, 3, 1, 0, 1, 1, 1, 1, -1};
        long d = 1889;
        for (long each : told) {
            d = d * 31 + each;
        }
        CHECK.due("33: digest()", x.digest(), d);
        CHECK.due("33: digest() again", x.digest(), d);
        LanternPrimes off = new LanternPrimes();
        off.addLamp(false);
        d = 1889;
        for (long each : new long[] {1, 0, 0, 0, 0, 0, 0, 1, 1, -1}) {
            d = d * 31 + each;
        }
        CHECK.due("33: digest() of a lamp that is off", off.digest(), d);
    }
}
