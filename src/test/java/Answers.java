/**
 * All that an object tells, as one text: two objects of which the texts are equal can't be told
 * apart. For eight lamps with four beats each it takes some 330 calls.
 */
final class Answers {
    private static final int[] MOMENTS = {0, 1, 37, 60000};

    private final LanternPrimes x;
    private final StringBuilder told = new StringBuilder();

    private Answers(LanternPrimes x) {
        this.x = x;
    }

    /** The answers now, and behind them those of some changes: the object is used up by that. */
    static String of(LanternPrimes x) {
        Answers answers = new Answers(x);
        answers.all();
        int lamps = x.lamps();
        for (int lamp = 0; lamp < lamps; lamp++) {
            answers.lamp(lamp);
            for (int other = lamp + 1; other < lamps; other++) {
                answers.pair(lamp, other);
            }
        }
        answers.changes();
        return answers.told.toString();
    }

    private void add(Object... some) {
        for (Object each : some) {
            told.append(each).append(' ');
        }
        told.append('\n');
    }

    private void all() {
        add("all:", x.lamps(), x.now(), x.changesSeen(), x.litLamps(), x.isDark(), x.meanBeats(), x.digest());
        add(x.momentsUntilDark(), x.darkWithin(1), x.darkWithin(500), x.brightestWithin(500));
        add(x.bestCover(1), x.bestCover(200));
    }

    private void lamp(int lamp) {
        add("lamp", lamp, x.isCovered(lamp), x.isOn(lamp), x.isLit(lamp), x.isSteady(lamp));
        add(x.cycleOf(lamp), x.momentsUntilChange(lamp), x.shows(lamp, 1), x.shows(lamp, 30));
        for (int moment : MOMENTS) {
            add("at", moment, x.isOnAt(lamp, moment), x.strikesAt(lamp, moment));
        }
        int beats = x.beatsOf(lamp);
        for (int beat = 0; beat < beats; beat++) {
            add("beat", beat, x.numberOf(lamp, beat), x.offsetOf(lamp, beat));
        }
    }

    private void pair(int a, int b) {
        add("pair", a, b, x.momentsUntilCollision(a, b), x.collisionsWithin(a, b, 500), x.momentsUntilToldApart(a, b));
    }

    /** What is hidden now may show when there is a change: a place that is taken, a beat behind the last. */
    private void changes() {
        add("changes:", outcome(() -> x.addLamp(true)), outcome(() -> x.addBeat(0, 7, 5)), x.digest());
        int last = x.lamps() - 1;
        add(outcome(() -> x.addBeat(last, 11, 2)), outcome(() -> x.moveBeat(0, 0, 1)), x.digest());
        add(outcome(() -> x.takeBeat(0, 0)), outcome(() -> x.addBeat(0, 3, 1)), x.digest());
        add(outcome(() -> x.turnShutter(last)), x.pass(9), x.changesSeen(), x.digest());
    }

    private static Object outcome(Check.Call made) {
        return Check.outcome(made);
    }
}
