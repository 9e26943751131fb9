/** Promise 2: submit. */
public final class SubmitTest {
    private static final Check CHECK = new Check();

    public static void main(String[] args) {
        transfersAreNumberedUpTo24();
        edgesAreTaken();
        wrongOnesAreRefused();
        aTransferIsKeptAsItWasGiven();
        CHECK.end();
    }

    private static void transfersAreNumberedUpTo24() {
        ThreeChainLedger x = new ThreeChainLedger(1, 0, 4);
        for (int t = 0; t < 24; t++) {
            CHECK.due("outcome(0, " + t + ") before", x.outcome(0, t), -1);
            CHECK.due("submit of transfer " + t, x.submit(15, t % 4, (t + 1) % 4, 1 + t), t);
            CHECK.due("outcome(0, " + t + ") after", x.outcome(0, t), 0);
        }
        CHECK.due("the 25th submit", x.submit(15, 0, 1, 1), -1);
        CHECK.due("outcome(0, 24)", x.outcome(0, 24), -1);
    }

    private static void edgesAreTaken() {
        ThreeChainLedger x = new ThreeChainLedger(1, 1, 4);
        CHECK.due("submit(0, 0, 3, 1)", x.submit(0, 0, 3, 1), 0);
        CHECK.due("submit(15, 3, 0, 1000)", x.submit(15, 3, 0, 1000), 1);
        CHECK.due("submit(1, 2, 1, 500)", x.submit(1, 2, 1, 500), 2);
        ThreeChainLedger y = new ThreeChainLedger(2, 0, 4);
        CHECK.due("submit(127, 0, 1, 1)", y.submit(127, 0, 1, 1), 0);
    }

    private static void wrongOnesAreRefused() {
        ThreeChainLedger x = new ThreeChainLedger(1, 0, 4);
        int[][] wrong = {
            {16, 0, 1, 1}, {31, 0, 1, 1}, {-1, 0, 1, 1}, {Integer.MIN_VALUE, 0, 1, 1}, {1 << 30, 0, 1, 1},
            {15, -1, 1, 1}, {15, 4, 1, 1}, {15, 0, -1, 1}, {15, 0, 4, 1}, {15, 5, 5, 1},
            {15, Integer.MIN_VALUE, 1, 1}, {15, 0, Integer.MAX_VALUE, 1},
            {15, 0, 0, 1}, {15, 3, 3, 1},
            {15, 0, 1, 0}, {15, 0, 1, -1}, {15, 0, 1, 1001},
            {15, 0, 1, Integer.MAX_VALUE}, {15, 0, 1, Integer.MIN_VALUE},
        };
        for (int[] w : wrong) {
            String call = "submit(" + w[0] + ", " + w[1] + ", " + w[2] + ", " + w[3] + ")";
            CHECK.due(call, x.submit(w[0], w[1], w[2], w[3]), -1);
        }
        CHECK.due("outcome(0, 0)", x.outcome(0, 0), -1);
        CHECK.due("lead(0)", x.lead(0), 1);
        CHECK.due("payload(1)", x.payload(1), 0);
        CHECK.due("submit(15, 0, 1, 1)", x.submit(15, 0, 1, 1), 0);
        ThreeChainLedger y = new ThreeChainLedger(2, 0, 4);
        CHECK.due("submit(128, 0, 1, 1) with seven replicas", y.submit(128, 0, 1, 1), -1);
    }

    private static void aTransferIsKeptAsItWasGiven() {
        ThreeChainLedger x = new ThreeChainLedger(1, 0, 9);
        x.submit(14, 0, 1, 7);
        x.submit(1, 2, 3, 40);
        for (int i = 0; i < 3; i++) {
            Scene.round(x, 0);
        }
        CHECK.due("payload(1)", x.payload(1), 2);
        int[] balances = {100, 100, 60, 140};
        for (int account = 0; account < 4; account++) {
            CHECK.due("balance(0, " + account + ")", x.balance(0, account), balances[account]);
        }
    }
}
