/** All promises: runs of calls drawn by a fixed row of numbers answer as the naive program does. */
public final class ModelTest {
    private static final int RUNS = 90;
    private static final int CALLS = 500;
    private static final int[] EDGES = {
        Integer.MIN_VALUE, -1, 0, 1, 29, 30, 31, 199, 200, 201, 499, 500, 501,
        59999, 60000, 60001, Integer.MAX_VALUE
    };
    private static final int[] NUMBERS = {2, 2, 2, 3, 3, 3, 5, 7, 11, 13, 2, 3, 4, 0};

    private static final Check CHECK = new Check();

    private long drawn;
    private final LanternPrimes x = new LanternPrimes();
    private final NaiveLanterns y = new NaiveLanterns();

    private ModelTest(int run) {
        drawn = 1234567L + 7919L * run;
    }

    public static void main(String[] args) {
        for (int run = 0; run < RUNS; run++) {
            new ModelTest(run).calls(run);
        }
        CHECK.end();
    }

    private int below(int bound) {
        drawn = drawn * 6364136223846793005L + 1442695040888963407L;
        return (int) ((drawn >>> 33) % bound);
    }

    private int lamp() {
        return below(20) == 0 ? EDGES[below(EDGES.length)] : below(Math.max(1, y.lamps()));
    }

    private int beat() {
        return below(20) == 0 ? EDGES[below(EDGES.length)] : below(4);
    }

    private int moments(int most) {
        return below(6) == 0 ? EDGES[below(EDGES.length)] : 1 + below(most);
    }

    private void same(String call, Check.Call got, Check.Call due) {
        CHECK.due(call, Check.outcome(got), Check.outcome(due));
    }

    private void calls(int run) {
        // Some runs have few lamps, others all of them; some pass seldom, others often.
        int lampsWanted = 1 + run % 9;
        for (int i = 0; i < CALLS; i++) {
            String where = "run " + run + ", call " + i + ": ";
            int kind = below(10);
            if (kind < 3) {
                change(where, lampsWanted);
            } else if (kind < 6) {
                alone(where, lamp());
            } else {
                together(where, lamp(), lamp());
            }
        }
        same("run " + run + ": digest", x::digest, y::digest);
    }

    private void change(String where, int lampsWanted) {
        int lamp = lamp();
        int beat = beat();
        int number = NUMBERS[below(NUMBERS.length)];
        int offset = below(15) == 0 ? EDGES[below(EDGES.length)] : below(Math.max(1, number));
        int moments = moments(below(3) == 0 ? 500 : 20);
        boolean on = below(2) == 0;
        switch (y.lamps() < lampsWanted && below(2) == 0 ? 0 : 1 + below(7)) {
            case 0 -> same(where + "addLamp", () -> x.addLamp(on), () -> y.addLamp(on));
            case 1, 2 -> same(where + "addBeat",
                    () -> x.addBeat(lamp, number, offset), () -> y.addBeat(lamp, number, offset));
            case 3, 4 -> same(where + "moveBeat",
                    () -> x.moveBeat(lamp, beat, offset), () -> y.moveBeat(lamp, beat, offset));
            case 5 -> same(where + "takeBeat", () -> x.takeBeat(lamp, beat), () -> y.takeBeat(lamp, beat));
            case 6 -> same(where + "turnShutter", () -> x.turnShutter(lamp), () -> y.turnShutter(lamp));
            default -> same(where + "pass", () -> x.pass(moments), () -> y.pass(moments));
        }
    }

    private void alone(String where, int lamp) {
        int beat = beat();
        int moment = below(4) == 0 ? EDGES[below(EDGES.length)] : below(60001);
        int moments = moments(30);
        switch (below(14)) {
            case 0 -> same(where + "beatsOf", () -> x.beatsOf(lamp), () -> y.beatsOf(lamp));
            case 1 -> same(where + "numberOf", () -> x.numberOf(lamp, beat), () -> y.numberOf(lamp, beat));
            case 2 -> same(where + "offsetOf", () -> x.offsetOf(lamp, beat), () -> y.offsetOf(lamp, beat));
            case 3 -> same(where + "isCovered", () -> x.isCovered(lamp), () -> y.isCovered(lamp));
            case 4 -> same(where + "isOn", () -> x.isOn(lamp), () -> y.isOn(lamp));
            case 5 -> same(where + "isLit", () -> x.isLit(lamp), () -> y.isLit(lamp));
            case 6, 7 -> same(where + "isOnAt", () -> x.isOnAt(lamp, moment), () -> y.isOnAt(lamp, moment));
            case 8 -> same(where + "strikesAt",
                    () -> x.strikesAt(lamp, moment), () -> y.strikesAt(lamp, moment));
            case 9 -> same(where + "isSteady", () -> x.isSteady(lamp), () -> y.isSteady(lamp));
            case 10, 11 -> same(where + "cycleOf", () -> x.cycleOf(lamp), () -> y.cycleOf(lamp));
            case 12 -> same(where + "momentsUntilChange",
                    () -> x.momentsUntilChange(lamp), () -> y.momentsUntilChange(lamp));
            default -> same(where + "shows", () -> x.shows(lamp, moments), () -> y.shows(lamp, moments));
        }
    }

    private void together(String where, int a, int b) {
        int moments = moments(500);
        int covering = moments(200);
        switch (below(14)) {
            case 0 -> same(where + "lamps", x::lamps, y::lamps);
            case 1 -> same(where + "now", x::now, y::now);
            case 2 -> same(where + "changesSeen", x::changesSeen, y::changesSeen);
            case 3 -> same(where + "litLamps", x::litLamps, y::litLamps);
            case 4 -> same(where + "isDark", x::isDark, y::isDark);
            case 5 -> same(where + "momentsUntilCollision",
                    () -> x.momentsUntilCollision(a, b), () -> y.momentsUntilCollision(a, b));
            case 6 -> same(where + "collisionsWithin",
                    () -> x.collisionsWithin(a, b, moments), () -> y.collisionsWithin(a, b, moments));
            case 7 -> same(where + "momentsUntilToldApart",
                    () -> x.momentsUntilToldApart(a, b), () -> y.momentsUntilToldApart(a, b));
            case 8 -> same(where + "momentsUntilDark", x::momentsUntilDark, y::momentsUntilDark);
            case 9 -> same(where + "darkWithin", () -> x.darkWithin(moments), () -> y.darkWithin(moments));
            case 10 -> same(where + "brightestWithin",
                    () -> x.brightestWithin(moments), () -> y.brightestWithin(moments));
            case 11 -> same(where + "bestCover", () -> x.bestCover(covering), () -> y.bestCover(covering));
            case 12 -> same(where + "meanBeats", x::meanBeats, y::meanBeats);
            default -> same(where + "digest", x::digest, y::digest);
        }
    }
}
