/** Promise 17: state. */
public final class StateTest {
    private static final Check CHECK = new Check();

    public static void main(String[] args) {
        everyWhatHasItsOwnAnswer();
        wrongOnesAreRefused();
        highIsTheGreatestViewNotTheLastSeen();
        tipNeedsThreeSuccessiveViews();
        tipOfALaterThreeCountsAndDoesNotFallBack();
        CHECK.end();
    }

    private static void everyWhatHasItsOwnAnswer() {
        ThreeChainLedger x = new ThreeChainLedger(1, 0, 9);
        for (int i = 0; i < 4; i++) {
            Scene.round(x, 0);
        }
        CHECK.dueState(x, 0, 5, 0, 2, 4, 4, 4, 3, 2, 0);
        CHECK.dueState(x, 1, 4, 0, 2, 4, 0, 3, 2, 1, 0);
        for (int r = 0; r < 4; r++) {
            Scene.ticks(x, r, r == 0 ? 2 : 6);
        }
        x.flow(40);
        x.tick(0);
        CHECK.dueState(x, 0, 6, 1, 4, 4, 4, 4, 3, 2, 6);
    }

    private static void wrongOnesAreRefused() {
        ThreeChainLedger x = new ThreeChainLedger(1, 4, 4);
        int[][] wrong = {
            {-1, 0}, {4, 0}, {2, 0}, {2, 8}, {34, 0}, {Integer.MIN_VALUE, 0}, {Integer.MAX_VALUE, 0},
            {0, -1}, {0, 9}, {0, Integer.MIN_VALUE}, {0, Integer.MAX_VALUE},
        };
        for (int[] w : wrong) {
            CHECK.due("state(" + w[0] + ", " + w[1] + ")", x.state(w[0], w[1]), -1);
        }
    }

    private static void highIsTheGreatestViewNotTheLastSeen() {
        ThreeChainLedger x = Scene.withLiar();
        Scene.show(x, 0, 1, 0, 1, 2);
        Scene.show(x, 1, 3, 0, 1, 2);
        x.claim(0, 1, 2, 3);
        x.flow(40);
        CHECK.dueState(x, 3, 4, 0, 2, 0, 0, 2, 1, 0, 0);
        x.claim(0, 1, 1, 3);
        x.claim(0, 1, 0, 3);
        x.flow(40);
        CHECK.dueState(x, 3, 4, 0, 2, 0, 0, 2, 1, 0, 0);
    }

    private static void tipNeedsThreeSuccessiveViews() {
        int[][] views = {{1, 2, 3}, {2, 3, 4}, {1, 2, 4}, {1, 3, 4}, {1, 3, 5}, {6, 7, 8}};
        int[] tips = {1, 1, 0, 0, 0, 1};
        for (int i = 0; i < views.length; i++) {
            ThreeChainLedger x = Scene.withLiar();
            for (int b = 0; b < 3; b++) {
                Scene.show(x, b, views[i][b], 0, 1, 2, 3);
            }
            CHECK.due("run " + i + ": state(1, 7), the last without a certificate seen", x.state(1, 7), 0);
            Scene.show(x, 3, 9, 0, 1);
            CHECK.due("run " + i + ": state(1, 7)", x.state(1, 7), tips[i]);
            CHECK.due("run " + i + ": state(1, 6)", x.state(1, 6), 2);
            CHECK.due("run " + i + ": state(1, 5)", x.state(1, 5), 3);
            CHECK.due("run " + i + ": state(2, 7), which was shown less", x.state(2, 7), 0);
        }
    }

    private static void tipOfALaterThreeCountsAndDoesNotFallBack() {
        ThreeChainLedger x = Scene.withLiar();
        for (int view = 1; view <= 6; view++) {
            Scene.show(x, view - 1, view, 0, 1, 2, 3);
        }
        CHECK.due("state(1, 7)", x.state(1, 7), 3);
        Scene.show(x, 6, 8, 0, 1, 2, 3);
        Scene.show(x, 7, 9, 0, 1, 2, 3);
        CHECK.due("state(1, 7), view 7 being left out", x.state(1, 7), 4);
        x.claim(0, 1, 3, 1);
        x.flow(40);
        CHECK.due("state(1, 7), after an old certificate", x.state(1, 7), 4);
        // Replica 1 leads view 10, so it got the votes for block 8 as well.
        CHECK.due("state(1, 6)", x.state(1, 6), 7);
        // A certificate tells of the whole chain below it, but only its own three blocks make a TIP.
        ThreeChainLedger y = Scene.withLiar();
        for (int view = 1; view <= 4; view++) {
            Scene.show(y, view - 1, view, 0, 1, 2);
        }
        Scene.show(y, 4, 6, 0, 1, 2);
        y.claim(0, 1, 5, 3);
        y.flow(40);
        CHECK.dueState(y, 3, 7, 0, 2, 0, 0, 5, 4, 0, 0);
        y.claim(0, 1, 4, 3);
        y.flow(40);
        CHECK.dueState(y, 3, 7, 0, 2, 0, 0, 5, 4, 2, 0);
    }
}
