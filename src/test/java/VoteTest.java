/** Promise 10: vote. */
public final class VoteTest {
    private static final Check CHECK = new Check();

    public static void main(String[] args) {
        ThreeChainLedger x = new ThreeChainLedger(2, 34, 4);
        x.lead(0);
        for (int i = 0; i < 7; i++) {
            x.drop(0);
        }
        int[][] wrong = {
            {0, 1, 2}, {6, 1, 2}, {-1, 1, 2}, {7, 1, 2}, {33, 1, 2}, {Integer.MIN_VALUE, 1, 2},
            {1, 0, 2}, {1, -1, 2}, {1, 2, 2}, {1, Integer.MAX_VALUE, 2},
            {1, 1, -1}, {1, 1, 7}, {1, 1, Integer.MIN_VALUE},
        };
        for (int[] w : wrong) {
            CHECK.due("vote(" + w[0] + ", " + w[1] + ", " + w[2] + ")", x.vote(w[0], w[1], w[2]), false);
        }
        CHECK.due("waiting()", x.waiting(), 0);
        CHECK.due("vote(1, 1, 6)", x.vote(1, 1, 6), true);
        CHECK.due("vote(5, 1, 0)", x.vote(5, 1, 0), true);
        CHECK.due("message(0)", x.message(0), 1 + 4 * 6 + 32 + 256);
        CHECK.due("message(1)", x.message(1), 1 + 32 * 5 + 256);
        x.flow(40);
        CHECK.due("votes(1), correct ones only", x.votes(1), 0);
        twoLiarsVotesCountForTwo();
        aFullRowRefuses();
        CHECK.end();
    }

    private static void twoLiarsVotesCountForTwo() {
        ThreeChainLedger x = new ThreeChainLedger(2, 3, 4);
        Scene.show(x, 0, 8, 0, 2, 3, 4);
        CHECK.due("state(2, 5), three votes", x.state(2, 5), 0);
        x.vote(0, 1, 2);
        x.flow(40);
        CHECK.due("state(2, 5), four votes", x.state(2, 5), 0);
        x.vote(0, 1, 2);
        x.flow(40);
        CHECK.due("state(2, 5), one of them twice", x.state(2, 5), 0);
        x.vote(1, 1, 2);
        x.flow(40);
        CHECK.due("state(2, 5), five votes", x.state(2, 5), 1);
        CHECK.due("state(3, 5), which got none", x.state(3, 5), 0);
    }

    private static void aFullRowRefuses() {
        ThreeChainLedger x = Scene.withLiar();
        x.forge(0, 1, 0);
        Scene.fill(x, 0, 1, 2, 39);
        CHECK.due("vote(0, 1, 3), the 40th message", x.vote(0, 1, 3), true);
        CHECK.due("vote(0, 1, 3) when 40 wait", x.vote(0, 1, 3), false);
        CHECK.due("waiting()", x.waiting(), 40);
        CHECK.due("lost()", x.lost(), 0);
    }
}
