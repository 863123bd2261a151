import java.util.ArrayList;
import java.util.List;

/**
 * The document once more, by other means: each lamp is turned moment by moment and what it did is
 * kept, so that each answer is read off. Nothing here knows of cycles but that all of them end
 * within 60060 moments.
 */
final class NaiveLanterns {
    private static final int ALL_BEGINS_ANEW = 60060;

    private static final class Lamp {
        final boolean start;
        final List<int[]> beats = new ArrayList<>();
        boolean covered = false;
        private boolean[] on = new boolean[0];

        Lamp(boolean start) {
            this.start = start;
        }

        void forget() {
            on = new boolean[0];
        }

        boolean on(int moment) {
            if (moment >= on.length) {
                turnUpTo(moment + ALL_BEGINS_ANEW);
            }
            return on[moment];
        }

        private void turnUpTo(int last) {
            on = new boolean[last + 1];
            boolean state = start;
            for (int moment = 0; moment <= last; moment++) {
                for (int[] beat : beats) {
                    if (moment % beat[0] == beat[1]) {
                        state = !state;
                    }
                }
                on[moment] = state;
            }
        }

        boolean lit(int moment) {
            return on(moment) && !covered;
        }

        boolean changes(int moment) {
            return on(moment) != (moment == 0 ? start : on(moment - 1));
        }

        boolean beginsAnewBehind(int moments) {
            for (int moment = 0; moment <= ALL_BEGINS_ANEW; moment++) {
                if (on(moment) != on(moment + moments)) {
                    return false;
                }
            }
            return true;
        }
    }

    private final List<Lamp> lamps = new ArrayList<>();
    private int now = 0;
    private int changesSeen = 0;

    private static IndexOutOfBoundsException noSuch() {
        return new IndexOutOfBoundsException();
    }

    private static void in(int value, int least, int most) {
        if (value < least || value > most) {
            throw new IllegalArgumentException();
        }
    }

    private Lamp lamp(int lamp) {
        if (lamp < 0 || lamp >= lamps.size()) {
            throw noSuch();
        }
        return lamps.get(lamp);
    }

    private int[] beat(int lamp, int beat) {
        Lamp its = lamp(lamp);
        if (beat < 0 || beat >= its.beats.size()) {
            throw noSuch();
        }
        return its.beats.get(beat);
    }

    private void apart(int a, int b) {
        lamp(a);
        lamp(b);
        if (a == b) {
            throw new IllegalArgumentException();
        }
    }

    int addLamp(boolean on) {
        if (lamps.size() == 8) {
            throw new IllegalStateException();
        }
        lamps.add(new Lamp(on));
        return lamps.size() - 1;
    }

    int addBeat(int lamp, int number, int offset) {
        Lamp its = lamp(lamp);
        if (!List.of(2, 3, 5, 7, 11, 13).contains(number)) {
            throw new IllegalArgumentException();
        }
        in(offset, 0, number - 1);
        if (its.beats.size() == 4) {
            throw new IllegalStateException();
        }
        its.beats.add(new int[] {number, offset});
        its.forget();
        return its.beats.size() - 1;
    }

    int moveBeat(int lamp, int beat, int offset) {
        int[] its = beat(lamp, beat);
        in(offset, 0, its[0] - 1);
        int before = its[1];
        its[1] = offset;
        lamp(lamp).forget();
        return before;
    }

    int takeBeat(int lamp, int beat) {
        beat(lamp, beat);
        lamp(lamp).beats.remove(beat);
        lamp(lamp).forget();
        return lamp(lamp).beats.size();
    }

    boolean turnShutter(int lamp) {
        Lamp its = lamp(lamp);
        its.covered = !its.covered;
        return its.covered;
    }

    int pass(int moments) {
        in(moments, 1, 500);
        int changes = 0;
        for (int i = 0; i < moments; i++) {
            now++;
            for (Lamp lamp : lamps) {
                changes += lamp.changes(now) ? 1 : 0;
            }
        }
        changesSeen += changes;
        return changes;
    }

    int lamps() {
        return lamps.size();
    }

    int now() {
        return now;
    }

    int changesSeen() {
        return changesSeen;
    }

    int beatsOf(int lamp) {
        return lamp(lamp).beats.size();
    }

    int numberOf(int lamp, int beat) {
        return beat(lamp, beat)[0];
    }

    int offsetOf(int lamp, int beat) {
        return beat(lamp, beat)[1];
    }

    boolean isCovered(int lamp) {
        return lamp(lamp).covered;
    }

    boolean isOn(int lamp) {
        return lamp(lamp).on(now);
    }

    boolean isLit(int lamp) {
        return lamp(lamp).lit(now);
    }

    private int lit(int moment) {
        int lit = 0;
        for (Lamp lamp : lamps) {
            lit += lamp.lit(moment) ? 1 : 0;
        }
        return lit;
    }

    int litLamps() {
        return lit(now);
    }

    boolean isDark() {
        return lit(now) == 0;
    }

    boolean isOnAt(int lamp, int moment) {
        Lamp its = lamp(lamp);
        in(moment, 0, 60000);
        return its.on(moment);
    }

    int strikesAt(int lamp, int moment) {
        Lamp its = lamp(lamp);
        in(moment, 0, 60000);
        int strikes = 0;
        for (int[] beat : its.beats) {
            strikes += moment % beat[0] == beat[1] ? 1 : 0;
        }
        return strikes;
    }

    boolean isSteady(int lamp) {
        Lamp its = lamp(lamp);
        for (int moment = 0; moment <= ALL_BEGINS_ANEW; moment++) {
            if (its.changes(moment)) {
                return false;
            }
        }
        return true;
    }

    int cycleOf(int lamp) {
        Lamp its = lamp(lamp);
        for (int moments = 1; moments <= ALL_BEGINS_ANEW; moments++) {
            if (its.beginsAnewBehind(moments)) {
                return moments;
            }
        }
        return 0;
    }

    int momentsUntilChange(int lamp) {
        Lamp its = lamp(lamp);
        for (int step = 1; step <= ALL_BEGINS_ANEW; step++) {
            if (its.changes(now + step)) {
                return step;
            }
        }
        return -1;
    }

    int shows(int lamp, int moments) {
        Lamp its = lamp(lamp);
        in(moments, 1, 30);
        int shown = 0;
        for (int step = 0; step < moments; step++) {
            shown *= 2;
            if (its.on(now + step)) {
                shown++;
            }
        }
        return shown;
    }

    int momentsUntilCollision(int a, int b) {
        apart(a, b);
        for (int step = 1; step <= 1000; step++) {
            if (lamp(a).changes(now + step) && lamp(b).changes(now + step)) {
                return step;
            }
        }
        return -1;
    }

    int collisionsWithin(int a, int b, int moments) {
        apart(a, b);
        in(moments, 1, 500);
        int collisions = 0;
        for (int step = 1; step <= moments; step++) {
            collisions += lamp(a).changes(now + step) && lamp(b).changes(now + step) ? 1 : 0;
        }
        return collisions;
    }

    int momentsUntilToldApart(int a, int b) {
        apart(a, b);
        for (int step = 0; step <= ALL_BEGINS_ANEW; step++) {
            if (lamp(a).on(now + step) != lamp(b).on(now + step)) {
                return step;
            }
        }
        return -1;
    }

    int momentsUntilDark() {
        for (int step = 0; step <= 2000; step++) {
            if (lit(now + step) == 0) {
                return step;
            }
        }
        return -1;
    }

    private int dark(int moments) {
        int dark = 0;
        for (int step = 1; step <= moments; step++) {
            dark += lit(now + step) == 0 ? 1 : 0;
        }
        return dark;
    }

    int darkWithin(int moments) {
        in(moments, 1, 500);
        return dark(moments);
    }

    int brightestWithin(int moments) {
        in(moments, 1, 500);
        int brightest = 1;
        for (int step = 1; step <= moments; step++) {
            if (lit(now + step) > lit(now + brightest)) {
                brightest = step;
            }
        }
        return brightest;
    }

    int bestCover(int moments) {
        in(moments, 1, 200);
        int best = -1;
        int most = -1;
        for (int i = 0; i < lamps.size(); i++) {
            if (!isCovered(i)) {
                turnShutter(i);
                int dark = dark(moments);
                turnShutter(i);
                if (dark > most) {
                    best = i;
                    most = dark;
                }
            }
        }
        return best;
    }

    double meanBeats() {
        double beats = 0;
        for (Lamp lamp : lamps) {
            beats += lamp.beats.size();
        }
        return lamps.isEmpty() ? 0 : beats / lamps.size();
    }

    long digest() {
        List<Integer> told = new ArrayList<>(List.of(lamps(), now(), changesSeen(), litLamps()));
        for (int i = 0; i < lamps.size(); i++) {
            told.addAll(List.of(beatsOf(i), isCovered(i) ? 1 : 0, isOn(i) ? 1 : 0, isSteady(i) ? 1 : 0));
            told.addAll(List.of(cycleOf(i), momentsUntilChange(i)));
            for (int beat = 0; beat < beatsOf(i); beat++) {
                told.addAll(List.of(numberOf(i, beat), offsetOf(i, beat)));
            }
        }
        long d = 1889;
        for (int each : told) {
            d = d * 31 + each;
        }
        return d;
    }
}
