/** "At most 512 calls": answers at the end of a run of so many calls, most of them pass(500). */
public final class LongRunTest {
    private static final int PASSES = 490;

    private static final Check CHECK = new Check();

    public static void main(String[] args) {
        LanternPrimes x = new LanternPrimes();
        NaiveLanterns y = new NaiveLanterns();
        int[][] beats = {{2, 1}, {3, 2, 5, 0}, {7, 6, 11, 3, 13, 12}, {13, 0, 13, 0}};
        for (int lamp = 0; lamp < beats.length; lamp++) {
            x.addLamp(lamp % 2 == 0);
            y.addLamp(lamp % 2 == 0);
            for (int i = 0; i < beats[lamp].length; i += 2) {
                x.addBeat(lamp, beats[lamp][i], beats[lamp][i + 1]);
                y.addBeat(lamp, beats[lamp][i], beats[lamp][i + 1]);
            }
        }
        for (int i = 0; i < PASSES; i++) {
            CHECK.due("pass(500)", x.pass(500), y.pass(500));
        }
        CHECK.due("now()", x.now(), PASSES * 500);
        CHECK.due("changesSeen()", x.changesSeen(), y.changesSeen());
        CHECK.due("shows(2, 30)", x.shows(2, 30), y.shows(2, 30));
        CHECK.due("momentsUntilToldApart(1, 3)", x.momentsUntilToldApart(1, 3), y.momentsUntilToldApart(1, 3));
        CHECK.due("brightestWithin(500)", x.brightestWithin(500), y.brightestWithin(500));
        CHECK.due("momentsUntilDark()", x.momentsUntilDark(), y.momentsUntilDark());
        CHECK.due("bestCover(200)", x.bestCover(200), y.bestCover(200));
        CHECK.due("momentsUntilCollision(0, 2)", x.momentsUntilCollision(0, 2), y.momentsUntilCollision(0, 2));
        CHECK.due("isOnAt(3, 60000)", x.isOnAt(3, 60000), y.isOnAt(3, 60000));
        // Call 512, the last one of which the document tells.
        CHECK.due("digest()", x.digest(), y.digest());
        CHECK.end();
    }
}
