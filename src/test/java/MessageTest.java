/** Promise 13: message. */
public final class MessageTest {
    private static final Check CHECK = new Check();

    public static void main(String[] args) {
        ThreeChainLedger x = new ThreeChainLedger(2, 96, 4);
        CHECK.due("message(0) of an empty row", x.message(0), -1);
        x.lead(0);
        x.flow(40);
        // Replica 5 leads the views 21 to 24.
        x.forge(1, 21, 0);
        x.offer(2, 6);
        x.vote(6, 2, 4);
        x.claim(5, 77, 1, 3);
        Scene.ticks(x, 4, 2);
        x.lead(0);
        int[] row = {
            4 * 6 + 256 * 2,
            1 + 4 * 4 + 32 * 6 + 256 * 2,
            2 + 4 * 3 + 32 * 5 + 256,
            2 + 32 * 4,
            256 * 3,
        };
        for (int i = 0; i < row.length; i++) {
            CHECK.due("message(" + i + ")", x.message(i), row[i]);
        }
        CHECK.due("waiting()", x.waiting(), 11);
        CHECK.due("message(10)", x.message(10), 4 * 6 + 256 * 3);
        int[] refused = {-1, 11, 39, 40, Integer.MIN_VALUE, Integer.MAX_VALUE};
        for (int i : refused) {
            CHECK.due("message(" + i + ")", x.message(i), -1);
        }
        theLastBlockHasItsNumberToo();
        CHECK.end();
    }

    private static void theLastBlockHasItsNumberToo() {
        ThreeChainLedger x = Scene.withLiar();
        for (int b = 1; b < 40; b++) {
            x.forge(0, 9, 0);
        }
        x.offer(39, 3);
        CHECK.due("message(0)", x.message(0), 4 * 3 + 256 * 39);
        x.flow(1);
        CHECK.due("votes(39)", x.votes(39), 8);
        CHECK.due("message(0), the vote to the leader of view 10", x.message(0), 1 + 4 + 32 * 3 + 256 * 39);
    }
}
