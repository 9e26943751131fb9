import java.util.function.Supplier;

/** Promise 4: the edges of tick, and that a refused one changes nothing. */
public final class TickEdgesTest {
    private static final Check CHECK = new Check();

    public static void main(String[] args) {
        theTimerReachesThePatience();
        patienceStaysAtMost32();
        theViewIsTheAnswer();
        newViewIsForTheEnteredView();
        newViewBringsHigh();
        newViewFindsRoom();
        rIsACorrectReplica();
        CHECK.end();
    }

    private static void theTimerReachesThePatience() {
        CHECK.sentence("The timer grows by 1. If it is the patience then, r enters the view after its own");
        int[] patience = {2, 4, 8, 16, 32};
        int before = 0;
        for (int i = 0; i < patience.length; i++) {
            ThreeChainLedger x = new ThreeChainLedger(1, 0, 4);
            Scene.ticks(x, 2, before + patience[i] - 1);
            CHECK.dueState(x, 2, 1 + i, patience[i] - 1, patience[i]);
            CHECK.due("waiting() one tick before", x.waiting(), i);
            x.tick(2);
            CHECK.dueState(x, 2, 2 + i, 0, Math.min(32, 2 * patience[i]));
            CHECK.due("waiting()", x.waiting(), i + 1);
            CHECK.dueState(x, 1, 1, 0, 2);
            before += patience[i];
        }
    }

    private static void patienceStaysAtMost32() {
        CHECK.sentence("its patience doubles, but not above 32");
        int[] ticks = {2, 4, 8, 16, 32, 32, 32};
        int[] patience = {4, 8, 16, 32, 32, 32, 32};
        ThreeChainLedger x = new ThreeChainLedger(2, 0, 4);
        for (int i = 0; i < ticks.length; i++) {
            Scene.ticks(x, 6, ticks[i]);
            CHECK.dueState(x, 6, i + 2, 0, patience[i]);
        }
        Scene.ticks(x, 6, 31);
        CHECK.dueState(x, 6, 8, 31, 32);
    }

    private static void theViewIsTheAnswer() {
        CHECK.sentence("The view of r then");
        ThreeChainLedger x = new ThreeChainLedger(1, 0, 4);
        int[] views = {1, 2, 2, 2, 2, 3, 3};
        for (int i = 0; i < views.length; i++) {
            CHECK.due("tick(3), the one at " + i, x.tick(3), views[i]);
        }
    }

    private static void newViewIsForTheEnteredView() {
        CHECK.sentence("a NEWVIEW for the view that it entered");
        ThreeChainLedger x = new ThreeChainLedger(1, 0, 4);
        for (int r = 1; r < 4; r++) {
            Scene.ticks(x, r, 2);
            CHECK.due("message of replica " + r, x.message(r - 1), 2 + 32 * r);
        }
        x.flow(40);
        CHECK.due("state(0, 8), three NEWVIEWs for view 2", x.state(0, 8), 2);
        for (int r = 1; r < 4; r++) {
            Scene.ticks(x, r, 4);
        }
        x.flow(40);
        CHECK.due("state(0, 8), three NEWVIEWs for view 3", x.state(0, 8), 3);
    }

    private static void newViewBringsHigh() {
        CHECK.sentence("with HIGH");
        ThreeChainLedger x = new ThreeChainLedger(1, 0, 9);
        for (int i = 0; i < 3; i++) {
            Scene.round(x, 0);
        }
        // Replica 0 got the votes for block 3; replica 2 knows of block 2 by the proposal of block 3.
        Scene.ticks(x, 0, 2);
        Scene.ticks(x, 2, 2);
        CHECK.due("message(0), HIGH being block 3", x.message(0), 2 + 256 * 3);
        CHECK.due("message(1), HIGH being block 2", x.message(1), 2 + 32 * 2 + 256 * 2);
    }

    /** So many messages wait, and the next tick of replica 0 takes it to view 2. */
    private static ThreeChainLedger withWaiting(int count) {
        ThreeChainLedger x = new ThreeChainLedger(1, 2, 4);
        x.forge(0, 5, 0);
        Scene.fill(x, 1, 1, 2, count);
        x.tick(0);
        return x;
    }

    private static void newViewFindsRoom() {
        CHECK.sentence("when 40 wait, what is sent is LOST (a NEWVIEW)");
        ThreeChainLedger x = withWaiting(39);
        CHECK.due("tick(0) when 39 wait", x.tick(0), 2);
        CHECK.due("waiting()", x.waiting(), 40);
        CHECK.due("message(39)", x.message(39), 2);
        CHECK.due("lost()", x.lost(), 0);
        ThreeChainLedger y = withWaiting(40);
        CHECK.due("lost() before", y.lost(), 0);
        CHECK.due("tick(0) when 40 wait", y.tick(0), 2);
        CHECK.due("waiting()", y.waiting(), 40);
        CHECK.due("message(39)", y.message(39), 1 + 4 * 2 + 32 + 256);
        CHECK.due("lost()", y.lost(), 1);
        CHECK.dueState(y, 0, 2, 0, 4);
    }

    private static void rIsACorrectReplica() {
        CHECK.sentence("-1, refused, if r is not a correct replica");
        for (int faults = 1; faults <= 2; faults++) {
            int f = faults;
            int n = 3 * f + 1;
            Supplier<ThreeChainLedger> scene = () -> {
                ThreeChainLedger x = new ThreeChainLedger(f, 2, 4);
                Scene.ticks(x, 0, 1);
                Scene.ticks(x, n - 1, 1);
                return x;
            };
            int[] none = {-1, n, 1, 33, Integer.MIN_VALUE, Integer.MAX_VALUE};
            for (int r : none) {
                CHECK.refused("tick(" + r + ")", scene, x -> x.tick(r));
            }
            CHECK.due("tick(0)", scene.get().tick(0), 2);
            CHECK.due("tick(n - 1)", scene.get().tick(n - 1), 2);
        }
        // A corrupt one's timer does not run at all.
        ThreeChainLedger x = new ThreeChainLedger(1, 2, 4);
        Scene.ticks(x, 1, 70);
        CHECK.due("waiting()", x.waiting(), 0);
    }
}
