/** Promise 6: flow. */
public final class FlowTest {
    private static final Check CHECK = new Check();

    public static void main(String[] args) {
        ThreeChainLedger x = new ThreeChainLedger(2, 2, 4);
        CHECK.due("flow(40) of an empty row", x.flow(40), 0);
        x.lead(0);
        int[] refused = {-1, 41, Integer.MIN_VALUE, Integer.MAX_VALUE};
        for (int m : refused) {
            CHECK.due("flow(" + m + ")", x.flow(m), -1);
        }
        CHECK.due("waiting()", x.waiting(), 7);
        CHECK.due("flow(0)", x.flow(0), 0);
        CHECK.due("waiting()", x.waiting(), 7);
        CHECK.due("flow(3)", x.flow(3), 3);
        CHECK.due("votes(1), the corrupt one having got it, too", x.votes(1), 5);
        CHECK.due("message(0), the oldest that is left", x.message(0), 4 * 3 + 256);
        CHECK.due("flow(40), the votes that it causes included", x.flow(40), 4 + 6);
        CHECK.due("waiting()", x.waiting(), 0);
        CHECK.due("state(0, 5)", x.state(0, 5), 1);
        moreThanFortyTakeTwo();
        CHECK.end();
    }

    private static void moreThanFortyTakeTwo() {
        ThreeChainLedger x = new ThreeChainLedger(2, 2, 4);
        x.forge(0, 5, 0);
        x.lead(0);
        Scene.fill(x, 1, 1, 3, 33);
        CHECK.due("waiting()", x.waiting(), 40);
        CHECK.due("flow(40)", x.flow(40), 40);
        CHECK.due("waiting(), the votes", x.waiting(), 6);
        CHECK.due("flow(40) again", x.flow(40), 6);
    }
}
