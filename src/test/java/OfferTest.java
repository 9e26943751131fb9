/** Promise 9: offer. */
public final class OfferTest {
    private static final Check CHECK = new Check();

    public static void main(String[] args) {
        ThreeChainLedger x = new ThreeChainLedger(1, 2, 4);
        x.forge(0, 5, 0);
        int[][] wrong = {
            {0, 2}, {-1, 2}, {2, 2}, {40, 2}, {Integer.MIN_VALUE, 2}, {Integer.MAX_VALUE, 2},
            {1, -1}, {1, 4}, {1, Integer.MIN_VALUE}, {1, Integer.MAX_VALUE},
        };
        for (int[] w : wrong) {
            CHECK.due("offer(" + w[0] + ", " + w[1] + ")", x.offer(w[0], w[1]), false);
        }
        CHECK.due("waiting()", x.waiting(), 0);
        for (int r = 0; r < 4; r++) {
            CHECK.due("offer(1, " + r + ")", x.offer(1, r), true);
            CHECK.due("message(" + r + ")", x.message(r), 4 * r + 256);
        }
        x.flow(40);
        CHECK.due("votes(1)", x.votes(1), 13);
        aCorrectLeadersBlockCanBeOfferedToo();
        withoutLiarsNobodyOffers();
        aFullRowRefuses();
        CHECK.end();
    }

    private static void aCorrectLeadersBlockCanBeOfferedToo() {
        ThreeChainLedger x = new ThreeChainLedger(1, 2, 4);
        x.lead(0);
        for (int i = 0; i < 4; i++) {
            x.drop(0);
        }
        CHECK.due("offer(1, 3)", x.offer(1, 3), true);
        x.flow(40);
        CHECK.due("votes(1)", x.votes(1), 8);
    }

    private static void withoutLiarsNobodyOffers() {
        ThreeChainLedger x = new ThreeChainLedger(1, 0, 4);
        x.lead(0);
        CHECK.due("offer(1, 3) without liars", x.offer(1, 3), false);
        CHECK.due("waiting()", x.waiting(), 4);
    }

    private static void aFullRowRefuses() {
        ThreeChainLedger x = Scene.withLiar();
        x.forge(0, 1, 0);
        for (int i = 0; i < 40; i++) {
            CHECK.due("offer(1, 2)", x.offer(1, 2), true);
        }
        CHECK.due("offer(1, 2) when 40 wait", x.offer(1, 2), false);
        CHECK.due("waiting()", x.waiting(), 40);
        CHECK.due("lost()", x.lost(), 0);
    }
}
