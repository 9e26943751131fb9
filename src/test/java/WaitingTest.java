/** Promise 12: waiting. */
public final class WaitingTest {
    private static final Check CHECK = new Check();

    public static void main(String[] args) {
        ThreeChainLedger x = new ThreeChainLedger(1, 8, 4);
        CHECK.due("waiting()", x.waiting(), 0);
        x.lead(0);
        CHECK.due("waiting() after lead", x.waiting(), 4);
        x.drop(3);
        CHECK.due("waiting() after drop", x.waiting(), 3);
        x.deliver(0);
        CHECK.due("waiting() after deliver of a proposal", x.waiting(), 3);
        x.deliver(2);
        CHECK.due("waiting() after deliver of a vote", x.waiting(), 2);
        x.tick(1);
        CHECK.due("waiting() after a tick", x.waiting(), 2);
        x.tick(1);
        CHECK.due("waiting() after the timer ran out", x.waiting(), 3);
        Scene.fill(x, 3, 1, 1, 50);
        CHECK.due("waiting() at the most", x.waiting(), 40);
        x.flow(40);
        x.flow(40);
        CHECK.due("waiting() after flow", x.waiting(), 0);
        CHECK.end();
    }
}
