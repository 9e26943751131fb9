/** Promise 11: claim. */
public final class ClaimTest {
    private static final Check CHECK = new Check();

    public static void main(String[] args) {
        ThreeChainLedger x = new ThreeChainLedger(1, 2, 4);
        x.lead(0);
        for (int i = 0; i < 4; i++) {
            x.drop(0);
        }
        int[][] wrong = {
            {0, 5, 0, 2}, {-1, 5, 0, 2}, {4, 5, 0, 2}, {33, 5, 0, 2}, {Integer.MIN_VALUE, 5, 0, 2},
            {1, 0, 0, 2}, {1, -1, 0, 2}, {1, Integer.MIN_VALUE, 0, 2},
            {1, 5, 1, 2}, {1, 5, 2, 2}, {1, 5, -1, 2}, {1, 5, Integer.MAX_VALUE, 2},
            {1, 5, 0, -1}, {1, 5, 0, 4}, {1, 5, 0, Integer.MAX_VALUE},
        };
        for (int[] w : wrong) {
            String call = "claim(" + w[0] + ", " + w[1] + ", " + w[2] + ", " + w[3] + ")";
            CHECK.due(call, x.claim(w[0], w[1], w[2], w[3]), false);
        }
        CHECK.due("waiting()", x.waiting(), 0);
        CHECK.due("claim(1, 1, 0, 3)", x.claim(1, 1, 0, 3), true);
        CHECK.due("claim(1, MAX, 0, 1)", x.claim(1, Integer.MAX_VALUE, 0, 1), true);
        CHECK.due("message(0)", x.message(0), 2 + 4 * 3 + 32);
        CHECK.due("message(1)", x.message(1), 2 + 4 + 32);
        aCertifiedBlockCanBeClaimed();
        theGreatestClaimsOfTwoLiarsCount();
        aFullRowRefuses();
        CHECK.end();
    }

    private static void aCertifiedBlockCanBeClaimed() {
        ThreeChainLedger x = Scene.withLiar();
        Scene.show(x, 0, 1, 0, 1);
        CHECK.due("claim(0, 1, 1, 3), one vote", x.claim(0, 1, 1, 3), false);
        x.offer(1, 2);
        x.flow(40);
        CHECK.due("claim(0, 1, 1, 3), two votes", x.claim(0, 1, 1, 3), true);
        CHECK.due("message(0)", x.message(0), 2 + 4 * 3 + 256);
        x.flow(40);
        CHECK.due("state(3, 5)", x.state(3, 5), 1);
        CHECK.due("state(3, 0)", x.state(3, 0), 2);
    }

    private static void theGreatestClaimsOfTwoLiarsCount() {
        ThreeChainLedger x = new ThreeChainLedger(2, 6, 4);
        x.claim(1, 4, 0, 0);
        x.claim(2, 2, 0, 0);
        for (int r = 3; r < 6; r++) {
            Scene.ticks(x, r, 2 + 4);
        }
        x.flow(40);
        CHECK.due("state(0, 8), of 4, 2, 3, 3, 3", x.state(0, 8), 2);
        CHECK.due("state(0, 0)", x.state(0, 0), 2);
        x.claim(2, 9, 0, 0);
        x.flow(40);
        CHECK.due("state(0, 8), of 4, 9, 3, 3, 3", x.state(0, 8), 3);
        CHECK.due("state(0, 0)", x.state(0, 0), 3);
    }

    private static void aFullRowRefuses() {
        ThreeChainLedger x = Scene.withLiar();
        for (int i = 0; i < 40; i++) {
            CHECK.due("claim(0, 3, 0, 2)", x.claim(0, 3, 0, 2), true);
        }
        CHECK.due("claim(0, 3, 0, 2) when 40 wait", x.claim(0, 3, 0, 2), false);
        CHECK.due("waiting()", x.waiting(), 40);
        CHECK.due("lost()", x.lost(), 0);
    }
}
