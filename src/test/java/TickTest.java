/** Promise 4: tick. */
public final class TickTest {
    private static final Check CHECK = new Check();

    public static void main(String[] args) {
        patienceDoublesUpTo32();
        newViewGoesToTheLeaderOfTheEnteredView();
        newViewBringsHigh();
        newViewIsLostWithoutRoom();
        onlyCorrectReplicasTick();
        CHECK.end();
    }

    private static void patienceDoublesUpTo32() {
        ThreeChainLedger x = new ThreeChainLedger(1, 0, 4);
        int[] patience = {2, 4, 8, 16, 32, 32, 32};
        int view = 1;
        for (int i = 0; i < patience.length; i++) {
            CHECK.due("state(2, 2) in view " + view, x.state(2, 2), patience[i]);
            for (int timer = 1; timer < patience[i]; timer++) {
                CHECK.due("tick(2) in view " + view, x.tick(2), view);
                CHECK.due("state(2, 1) in view " + view, x.state(2, 1), timer);
            }
            view++;
            CHECK.due("last tick(2) before view " + view, x.tick(2), view);
            CHECK.due("state(2, 1) in view " + view, x.state(2, 1), 0);
            CHECK.due("state(2, 0)", x.state(2, 0), view);
            CHECK.due("waiting()", x.waiting(), i + 1);
        }
        CHECK.due("state(1, 0), another replica", x.state(1, 0), 1);
        CHECK.due("state(1, 1), another replica", x.state(1, 1), 0);
    }

    private static void newViewGoesToTheLeaderOfTheEnteredView() {
        ThreeChainLedger x = new ThreeChainLedger(1, 0, 4);
        Scene.ticks(x, 2, 62);
        CHECK.due("state(2, 0)", x.state(2, 0), 6);
        int[] leaders = {0, 0, 0, 1, 1};
        for (int i = 0; i < leaders.length; i++) {
            CHECK.due("message(" + i + ")", x.message(i), 2 + 4 * leaders[i] + 32 * 2);
        }
        x.flow(40);
        CHECK.due("state(2, 8)", x.state(2, 8), 0);
        ThreeChainLedger y = new ThreeChainLedger(1, 0, 4);
        Scene.ticks(y, 0, 2);
        CHECK.due("message(0) to itself", y.message(0), 2);
        CHECK.due("waiting()", y.waiting(), 1);
    }

    private static void newViewBringsHigh() {
        ThreeChainLedger x = new ThreeChainLedger(1, 0, 4);
        Scene.round(x, 0);
        Scene.ticks(x, 0, 2);
        CHECK.due("message(0), HIGH being block 1", x.message(0), 2 + 256);
        Scene.ticks(x, 3, 2);
        CHECK.due("message(1), HIGH being block 0", x.message(1), 2 + 32 * 3);
        CHECK.due("deliver(0)", x.deliver(0), 1);
        CHECK.due("state(0, 0)", x.state(0, 0), 3);
    }

    private static void newViewIsLostWithoutRoom() {
        ThreeChainLedger x = new ThreeChainLedger(1, 2, 4);
        x.forge(0, 5, 0);
        Scene.fill(x, 1, 1, 2, 40);
        CHECK.due("tick(0)", x.tick(0), 1);
        CHECK.due("lost()", x.lost(), 0);
        CHECK.due("tick(0)", x.tick(0), 2);
        CHECK.due("lost()", x.lost(), 1);
        CHECK.due("waiting()", x.waiting(), 40);
        CHECK.due("message(39)", x.message(39), 1 + 4 * 2 + 32 + 256);
        CHECK.due("state(0, 2)", x.state(0, 2), 4);
    }

    private static void onlyCorrectReplicasTick() {
        ThreeChainLedger x = new ThreeChainLedger(1, 4, 4);
        int[] refused = {-1, 2, 4, 7, Integer.MIN_VALUE, Integer.MAX_VALUE};
        for (int r : refused) {
            CHECK.due("tick(" + r + ")", x.tick(r), -1);
            CHECK.due("tick(" + r + ")", x.tick(r), -1);
        }
        CHECK.due("waiting()", x.waiting(), 0);
        CHECK.due("tick(3)", x.tick(3), 1);
        CHECK.due("state(3, 1)", x.state(3, 1), 1);
    }
}
