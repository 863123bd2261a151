/**
 * A code of lanterns: lamps that turn on beats of prime numbers, with shutters that cover them.
 *
 * <p>What each call promises stands in ../shared/DOC.md; the numbers of its promises stand here
 * ahead of the calls.
 */
public final class LanternPrimes {
    private static final int MOST_LAMPS = 8;
    private static final int MOST_BEATS = 4;
    /** Two lamps are compared by a lamp that has the beats of both, so a lamp has room for these. */
    private static final int ROOM_FOR_BEATS = 8;
    private static final int LAST_MOMENT = 60000;
    private static final int MOST_MOMENTS = 500;
    private static final int MOST_SHOWN = 30;
    private static final int MOST_MOMENTS_OF_COVER = 200;
    private static final int FARTHEST_COLLISION = 1000;
    private static final int FARTHEST_DARK = 2000;
    private static final int NO_LAMP = -1;
    private static final int NEVER = -1;
    private static final long DIGEST_START = 1889L;
    private static final long DIGEST_FACTOR = 31L;
    private static final int[] NUMBERS = {2, 3, 5, 7, 11, 13};

    /** All eight stand from the beginning, so that no entry is ever null; lampCount of them are in use. */
    private final Lamp[] row;
    /** The lamp by which two lamps are compared, made once and used again. */
    private final Lamp difference;
    private int lampCount;
    private int present;
    private int changesTold;

    /** Promise 1. */
    public LanternPrimes() {
        row = new Lamp[MOST_LAMPS];
        for (int i = 0; i < MOST_LAMPS; i++) {
            row[i] = new Lamp();
        }
        difference = new Lamp();
    }

    // ---- lamps

    /** Promise 2. */
    public int addLamp(boolean on) throws IllegalStateException {
        if (lampCount >= MOST_LAMPS) {
            throw new IllegalStateException("there are 8 lamps");
        }
        row[lampCount].onAtStart = on;
        lampCount++;
        return lampCount - 1;
    }

    /** Promise 3. */
    public int addBeat(int lamp, int number, int offset)
            throws IndexOutOfBoundsException, IllegalArgumentException, IllegalStateException {
        needLamp(lamp);
        needNumber(number);
        needOffset(offset, number);
        Lamp its = row[lamp];
        if (its.beatCount >= MOST_BEATS) {
            throw new IllegalStateException("the lamp has 4 beats");
        }
        its.append(number, offset);
        return its.beatCount - 1;
    }

    /** Promise 4. */
    public int moveBeat(int lamp, int beat, int offset)
            throws IndexOutOfBoundsException, IllegalArgumentException {
        needBeat(lamp, beat);
        Lamp its = row[lamp];
        needOffset(offset, its.numbers[beat]);
        int before = its.offsets[beat];
        its.offsets[beat] = offset;
        return before;
    }

    /** Promise 5. */
    public int takeBeat(int lamp, int beat) throws IndexOutOfBoundsException {
        needBeat(lamp, beat);
        Lamp its = row[lamp];
        its.remove(beat);
        return its.beatCount;
    }

    /** Promise 6. */
    public boolean turnShutter(int lamp) throws IndexOutOfBoundsException {
        needLamp(lamp);
        Lamp its = row[lamp];
        its.covered = !its.covered;
        return its.covered;
    }

    /** Promise 7. */
    public int pass(int moments) throws IllegalArgumentException {
        needMoments(moments, MOST_MOMENTS);
        int changes = 0;
        for (int step = 1; step <= moments; step++) {
            changes += changesOfLamps(present + step);
        }
        present += moments;
        changesTold += changes;
        return changes;
    }

    // ---- what there is

    /** Promise 8. */
    public int lamps() {
        return lampCount;
    }

    /** Promise 9. */
    public int now() {
        return present;
    }

    /** Promise 10. */
    public int changesSeen() {
        return changesTold;
    }

    /** Promise 11. */
    public int beatsOf(int lamp) throws IndexOutOfBoundsException {
        needLamp(lamp);
        return row[lamp].beatCount;
    }

    /** Promise 12. */
    public int numberOf(int lamp, int beat) throws IndexOutOfBoundsException {
        needBeat(lamp, beat);
        return row[lamp].numbers[beat];
    }

    /** Promise 13. */
    public int offsetOf(int lamp, int beat) throws IndexOutOfBoundsException {
        needBeat(lamp, beat);
        return row[lamp].offsets[beat];
    }

    /** Promise 14. */
    public boolean isCovered(int lamp) throws IndexOutOfBoundsException {
        needLamp(lamp);
        return row[lamp].covered;
    }

    /** Promise 15. */
    public boolean isOn(int lamp) throws IndexOutOfBoundsException {
        needLamp(lamp);
        return row[lamp].onAt(present);
    }

    /** Promise 16. */
    public boolean isLit(int lamp) throws IndexOutOfBoundsException {
        needLamp(lamp);
        return row[lamp].litAt(present);
    }

    /** Promise 17. */
    public int litLamps() {
        return litCount(present);
    }

    /** Promise 18. */
    public boolean isDark() {
        return darkAt(present, NO_LAMP);
    }

    // ---- lamps by themselves

    /** Promise 19. */
    public boolean isOnAt(int lamp, int moment)
            throws IndexOutOfBoundsException, IllegalArgumentException {
        needLamp(lamp);
        needMoment(moment);
        return row[lamp].onAt(moment);
    }

    /** Promise 20. */
    public int strikesAt(int lamp, int moment)
            throws IndexOutOfBoundsException, IllegalArgumentException {
        needLamp(lamp);
        needMoment(moment);
        return row[lamp].strikes(moment);
    }

    /** Promise 21. */
    public boolean isSteady(int lamp) throws IndexOutOfBoundsException {
        needLamp(lamp);
        return row[lamp].neverChanges();
    }

    /** Promise 22. */
    public int cycleOf(int lamp) throws IndexOutOfBoundsException {
        needLamp(lamp);
        return row[lamp].cycle();
    }

    /** Promise 23. */
    public int momentsUntilChange(int lamp) throws IndexOutOfBoundsException {
        needLamp(lamp);
        return row[lamp].untilChange(present);
    }

    /** Promise 24. */
    public int shows(int lamp, int moments)
            throws IndexOutOfBoundsException, IllegalArgumentException {
        needLamp(lamp);
        needMoments(moments, MOST_SHOWN);
        int shown = 0;
        for (int step = 0; step < moments; step++) {
            shown = 2 * shown + (row[lamp].onAt(present + step) ? 1 : 0);
        }
        return shown;
    }

    // ---- lamps together

    /** Promise 25. */
    public int momentsUntilCollision(int a, int b)
            throws IndexOutOfBoundsException, IllegalArgumentException {
        needPair(a, b);
        for (int step = 1; step <= FARTHEST_COLLISION; step++) {
            if (collideAt(a, b, present + step)) {
                return step;
            }
        }
        return NEVER;
    }

    /** Promise 26. */
    public int collisionsWithin(int a, int b, int moments)
            throws IndexOutOfBoundsException, IllegalArgumentException {
        needPair(a, b);
        needMoments(moments, MOST_MOMENTS);
        int collisions = 0;
        for (int step = 1; step <= moments; step++) {
            if (collideAt(a, b, present + step)) {
                collisions++;
            }
        }
        return collisions;
    }

    /** Promise 27. */
    public int momentsUntilToldApart(int a, int b)
            throws IndexOutOfBoundsException, IllegalArgumentException {
        needPair(a, b);
        difference.becomeDifference(row[a], row[b]);
        if (difference.onAt(present)) {
            return 0;
        }
        return difference.untilChange(present);
    }

    /** Promise 28. */
    public int momentsUntilDark() {
        for (int step = 0; step <= FARTHEST_DARK; step++) {
            if (darkAt(present + step, NO_LAMP)) {
                return step;
            }
        }
        return NEVER;
    }

    /** Promise 29. */
    public int darkWithin(int moments) throws IllegalArgumentException {
        needMoments(moments, MOST_MOMENTS);
        return darkMoments(moments, NO_LAMP);
    }

    /** Promise 30. */
    public int brightestWithin(int moments) throws IllegalArgumentException {
        needMoments(moments, MOST_MOMENTS);
        int brightest = 1;
        int most = litCount(present + 1);
        for (int step = 2; step <= moments; step++) {
            int lit = litCount(present + step);
            if (lit > most) {
                most = lit;
                brightest = step;
            }
        }
        return brightest;
    }

    /** Promise 31. */
    public int bestCover(int moments) throws IllegalArgumentException {
        needMoments(moments, MOST_MOMENTS_OF_COVER);
        int best = NO_LAMP;
        int most = -1;
        for (int lamp = 0; lamp < lampCount; lamp++) {
            if (!row[lamp].covered) {
                int dark = darkMoments(moments, lamp);
                if (dark > most) {
                    most = dark;
                    best = lamp;
                }
            }
        }
        return best;
    }

    /** Promise 32. */
    public double meanBeats() {
        if (lampCount == 0) {
            return 0.0;
        }
        int beats = 0;
        for (int lamp = 0; lamp < lampCount; lamp++) {
            beats += row[lamp].beatCount;
        }
        return (double) beats / lampCount;
    }

    /** Promise 33. */
    public long digest() {
        long d = DIGEST_START;
        d = mixed(d, lampCount);
        d = mixed(d, present);
        d = mixed(d, changesTold);
        d = mixed(d, litCount(present));
        for (int lamp = 0; lamp < lampCount; lamp++) {
            d = mixedWithLamp(d, row[lamp]);
        }
        return d;
    }

    private long mixedWithLamp(long before, Lamp lamp) {
        long d = before;
        d = mixed(d, lamp.beatCount);
        d = mixed(d, lamp.covered ? 1 : 0);
        d = mixed(d, lamp.onAt(present) ? 1 : 0);
        d = mixed(d, lamp.neverChanges() ? 1 : 0);
        d = mixed(d, lamp.cycle());
        d = mixed(d, lamp.untilChange(present));
        for (int beat = 0; beat < lamp.beatCount; beat++) {
            d = mixed(d, lamp.numbers[beat]);
            d = mixed(d, lamp.offsets[beat]);
        }
        return d;
    }

    private static long mixed(long d, long x) {
        return d * DIGEST_FACTOR + x;
    }

    // ---- what the calls refuse

    private void needLamp(int lamp) {
        if (lamp < 0 || lamp >= lampCount) {
            throw new IndexOutOfBoundsException("there is no such lamp");
        }
    }

    private void needBeat(int lamp, int beat) {
        needLamp(lamp);
        if (beat < 0 || beat >= row[lamp].beatCount) {
            throw new IndexOutOfBoundsException("there is no such beat");
        }
    }

    private void needPair(int a, int b) {
        needLamp(a);
        needLamp(b);
        if (a == b) {
            throw new IllegalArgumentException("both lamps are the same");
        }
    }

    private static void needNumber(int number) {
        for (int known : NUMBERS) {
            if (number == known) {
                return;
            }
        }
        throw new IllegalArgumentException("the number is none of 2, 3, 5, 7, 11 and 13");
    }

    private static void needOffset(int offset, int number) {
        if (offset < 0 || offset >= number) {
            throw new IllegalArgumentException("the offset is not 0 to the number less 1");
        }
    }

    private static void needMoment(int moment) {
        if (moment < 0 || moment > LAST_MOMENT) {
            throw new IllegalArgumentException("the moment is not 0 to 60000");
        }
    }

    private static void needMoments(int moments, int most) {
        if (moments < 1 || moments > most) {
            throw new IllegalArgumentException("the moments are too few or too many");
        }
    }

    // ---- all lamps at a moment

    private int changesOfLamps(int at) {
        int changes = 0;
        for (int lamp = 0; lamp < lampCount; lamp++) {
            if (row[lamp].changesAt(at)) {
                changes++;
            }
        }
        return changes;
    }

    private int litCount(int at) {
        int lit = 0;
        for (int lamp = 0; lamp < lampCount; lamp++) {
            if (row[lamp].litAt(at)) {
                lit++;
            }
        }
        return lit;
    }

    /** Whether it is dark at a moment, if besides the covered lamps one more is covered (or NO_LAMP). */
    private boolean darkAt(int at, int alsoCovered) {
        for (int lamp = 0; lamp < lampCount; lamp++) {
            if (lamp != alsoCovered && row[lamp].litAt(at)) {
                return false;
            }
        }
        return true;
    }

    private int darkMoments(int moments, int alsoCovered) {
        int dark = 0;
        for (int step = 1; step <= moments; step++) {
            if (darkAt(present + step, alsoCovered)) {
                dark++;
            }
        }
        return dark;
    }

    private boolean collideAt(int a, int b, int at) {
        return row[a].changesAt(at) && row[b].changesAt(at);
    }

    /** One lamp with its beats; what it is asked for is always within its beats, its callers see to it. */
    private static final class Lamp {
        private final int[] numbers = new int[ROOM_FOR_BEATS];
        private final int[] offsets = new int[ROOM_FOR_BEATS];
        private int beatCount;
        private boolean onAtStart;
        private boolean covered;

        void append(int number, int offset) {
            if (beatCount < ROOM_FOR_BEATS) {
                numbers[beatCount] = number;
                offsets[beatCount] = offset;
                beatCount++;
            }
        }

        void remove(int beat) {
            for (int i = beat + 1; i < beatCount; i++) {
                numbers[i - 1] = numbers[i];
                offsets[i - 1] = offsets[i];
            }
            beatCount--;
        }

        /**
         * Makes this a lamp that is on at just the moments at which one of the two is on and the
         * other one off: such a lamp is turned by the beats of both.
         */
        void becomeDifference(Lamp a, Lamp b) {
            onAtStart = a.onAtStart != b.onAtStart;
            beatCount = 0;
            appendBeatsOf(a);
            appendBeatsOf(b);
        }

        private void appendBeatsOf(Lamp other) {
            for (int i = 0; i < other.beatCount; i++) {
                append(other.numbers[i], other.offsets[i]);
            }
        }

        int strikes(int at) {
            int count = 0;
            for (int i = 0; i < beatCount; i++) {
                if (numbers[i] > 0 && at % numbers[i] == offsets[i]) {
                    count++;
                }
            }
            return count;
        }

        boolean changesAt(int at) {
            return isOdd(strikes(at));
        }

        boolean litAt(int at) {
            return !covered && onAt(at);
        }

        boolean onAt(int at) {
            int turns = 0;
            for (int i = 0; i < beatCount; i++) {
                turns += strikesUpTo(at, numbers[i], offsets[i]);
            }
            return onAtStart != isOdd(turns);
        }

        /** How often a beat strikes at the moments 0 to one, this one too. */
        private static int strikesUpTo(int at, int number, int offset) {
            if (number < 1 || at < offset) {
                return 0;
            }
            return (at - offset) / number + 1;
        }

        boolean neverChanges() {
            return cycle() == 1;
        }

        /**
         * The changes begin anew behind changeCycle() moments; if there is an odd number of them by
         * then, the lamp is the other way round, and is as it was only behind twice as many.
         */
        int cycle() {
            int changeCycle = changeCycle();
            boolean asAtStart = onAt(changeCycle - 1) == onAtStart;
            return asAtStart ? changeCycle : 2 * changeCycle;
        }

        /**
         * The least number of moments behind which the changes begin anew. Primes share no factor,
         * so each of them counts whole, unless the beats of this number come to nothing, or to a
         * turn at each moment: then they tell no moment from another.
         */
        private int changeCycle() {
            int product = 1;
            for (int number : NUMBERS) {
                int turning = turningRemainders(number);
                boolean alikeAtAll = turning == 0 || turning == (1 << number) - 1;
                if (!alikeAtAll) {
                    product *= number;
                }
            }
            return product;
        }

        /** A bit for each remainder, set if an odd number of the beats of this number strikes there. */
        private int turningRemainders(int number) {
            int bits = 0;
            for (int i = 0; i < beatCount; i++) {
                if (numbers[i] == number) {
                    bits ^= 1 << offsets[i];
                }
            }
            return bits;
        }

        /** A lamp that changes at all does so within each changeCycle(). */
        int untilChange(int from) {
            int changeCycle = changeCycle();
            for (int step = 1; step <= changeCycle; step++) {
                if (changesAt(from + step)) {
                    return step;
                }
            }
            return NEVER;
        }

        private static boolean isOdd(int count) {
            return (count & 1) == 1;
        }
    }
}
