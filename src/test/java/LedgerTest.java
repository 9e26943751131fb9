/** Promises 18 to 20: committed, balance and outcome. */
public final class LedgerTest {
    private static final Check CHECK = new Check();

    public static void main(String[] args) {
        committedGoesUpTheChain();
        nothingCommittedIsBlockZeroAlone();
        transfersGoByBlocksThenByNumbers();
        aTransferCountsOnceInAChain();
        onlyTheChainCounts();
        aWholeBalanceCanGo();
        wrongOnesAreRefused();
        CHECK.end();
    }

    private static void dueLedger(ThreeChainLedger x, int r, int[] balances, int... outcomes) {
        for (int account = 0; account < 4; account++) {
            CHECK.due("balance(" + r + ", " + account + ")", x.balance(r, account), balances[account]);
        }
        for (int t = 0; t < outcomes.length; t++) {
            CHECK.due("outcome(" + r + ", " + t + ")", x.outcome(r, t), outcomes[t]);
        }
    }

    /** Certifies three blocks of the views 7, 8 and 9 upon block b for the replicas 1 to 3, which commit b so. */
    private static void commit(ThreeChainLedger x, int b) {
        int seven = Scene.show(x, b, 7, 0, 1, 2, 3);
        int eight = Scene.show(x, seven, 8, 0, 1, 2, 3);
        int nine = Scene.show(x, eight, 9, 0, 1, 2, 3);
        for (int r = 1; r < 4; r++) {
            x.claim(0, 1, nine, r);
        }
        x.flow(40);
        CHECK.due("state(1, 7)", x.state(1, 7), seven);
    }

    private static void committedGoesUpTheChain() {
        ThreeChainLedger x = Scene.withLiar();
        x.forge(0, 1, 0);
        Scene.show(x, 0, 1, 0, 1, 2, 3);
        x.forge(2, 2, 0);
        Scene.show(x, 2, 3, 0, 1, 2, 3);
        commit(x, 4);
        int[] chain = {0, 2, 4, 5, -1, -1};
        for (int i = 0; i < chain.length; i++) {
            CHECK.due("committed(2, " + i + ")", x.committed(2, i), chain[i]);
        }
        int[][] wrong = {
            {2, -1}, {2, 40}, {2, Integer.MIN_VALUE}, {2, Integer.MAX_VALUE},
            {0, 0}, {-1, 0}, {4, 0}, {Integer.MAX_VALUE, 0},
        };
        for (int[] w : wrong) {
            CHECK.due("committed(" + w[0] + ", " + w[1] + ")", x.committed(w[0], w[1]), -1);
        }
    }

    private static void nothingCommittedIsBlockZeroAlone() {
        ThreeChainLedger x = new ThreeChainLedger(1, 0, 4);
        x.submit(15, 0, 1, 50);
        x.lead(0);
        x.flow(40);
        CHECK.due("committed(0, 0)", x.committed(0, 0), 0);
        CHECK.due("committed(0, 1)", x.committed(0, 1), -1);
        dueLedger(x, 0, new int[] {100, 100, 100, 100}, 0);
    }

    private static void transfersGoByBlocksThenByNumbers() {
        ThreeChainLedger x = Scene.withLiar();
        x.submit(0, 1, 2, 150);
        x.submit(0, 0, 1, 60);
        x.submit(0, 1, 3, 160);
        x.submit(0, 2, 0, 101);
        int first = Scene.show(x, 0, 1, 0b1010, 1, 2, 3);
        int second = Scene.show(x, first, 2, 0b0101, 1, 2, 3);
        commit(x, second);
        // 1 is done and 3 void in the first block, then 0 is done and 2 void in the second one.
        dueLedger(x, 1, new int[] {40, 10, 250, 100}, 1, 1, 2, 2, -1);
        dueLedger(x, 3, new int[] {40, 10, 250, 100}, 1, 1, 2, 2, -1);
    }

    private static void aTransferCountsOnceInAChain() {
        ThreeChainLedger x = Scene.withLiar();
        x.submit(0, 0, 1, 30);
        x.submit(0, 2, 3, 120);
        x.submit(0, 1, 2, 40);
        int first = Scene.show(x, 0, 1, 0b011, 1, 2, 3);
        int second = Scene.show(x, first, 2, 0b111, 1, 2, 3);
        int third = Scene.show(x, second, 3, 0b011, 1, 2, 3);
        commit(x, third);
        // 1 stays void, though account 2 could pay it in the end.
        dueLedger(x, 2, new int[] {70, 90, 140, 100}, 1, 2, 1);
    }

    private static void onlyTheChainCounts() {
        ThreeChainLedger x = Scene.withLiar();
        x.submit(0, 0, 1, 10);
        x.submit(0, 0, 2, 20);
        x.submit(0, 0, 3, 40);
        int aside = Scene.show(x, 0, 1, 0b001, 1, 2, 3);
        int used = Scene.show(x, 0, 2, 0b010, 1, 2, 3);
        commit(x, used);
        CHECK.due("votes of the block aside", x.votes(aside), 14);
        dueLedger(x, 1, new int[] {80, 100, 120, 100}, 0, 1, 0);
        // What stands above TIP is not committed.
        ThreeChainLedger y = new ThreeChainLedger(1, 0, 9);
        for (int t = 0; t < 6; t++) {
            y.submit(15, 0, 1, 10);
        }
        for (int i = 0; i < 4; i++) {
            Scene.round(y, 0);
        }
        dueLedger(y, 0, new int[] {60, 140, 100, 100}, 1, 1, 1, 1, 0, 0);
        dueLedger(y, 1, new int[] {80, 120, 100, 100}, 1, 1, 0, 0, 0, 0);
        CHECK.due("outcome(0, 2), the other replica's once more", y.outcome(0, 2), 1);
        CHECK.due("outcome(1, 2)", y.outcome(1, 2), 0);
    }

    private static void aWholeBalanceCanGo() {
        ThreeChainLedger x = Scene.withLiar();
        x.submit(0, 0, 1, 100);
        x.submit(0, 2, 3, 101);
        x.submit(0, 0, 2, 1);
        x.submit(0, 1, 0, 200);
        x.submit(0, 3, 0, 1000);
        commit(x, Scene.show(x, 0, 1, 0b11111, 1, 2, 3));
        dueLedger(x, 1, new int[] {200, 0, 100, 100}, 1, 2, 2, 1, 2);
        // Asking changes nothing: the same answers come again.
        dueLedger(x, 1, new int[] {200, 0, 100, 100}, 1, 2, 2, 1, 2);
    }

    private static void wrongOnesAreRefused() {
        ThreeChainLedger x = new ThreeChainLedger(1, 8, 4);
        x.submit(15, 0, 1, 1);
        int[][] wrong = {
            {-1, 0}, {3, 0}, {4, 0}, {Integer.MIN_VALUE, 0}, {Integer.MAX_VALUE, 0},
            {0, -1}, {0, 4}, {0, 24}, {0, Integer.MIN_VALUE}, {0, Integer.MAX_VALUE},
        };
        for (int[] w : wrong) {
            CHECK.due("balance(" + w[0] + ", " + w[1] + ")", x.balance(w[0], w[1]), -1);
            CHECK.due("outcome(" + w[0] + ", " + w[1] + ")", x.outcome(w[0], w[1]), -1);
        }
        CHECK.due("outcome(0, 0)", x.outcome(0, 0), 0);
        CHECK.due("outcome(0, 1)", x.outcome(0, 1), -1);
        CHECK.due("balance(0, 3)", x.balance(0, 3), 100);
    }
}
