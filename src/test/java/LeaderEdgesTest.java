/** Terms: who leads a view, where one leader's turn ends and where the turns begin anew. */
public final class LeaderEdgesTest {
    private static final Check CHECK = new Check();

    public static void main(String[] args) {
        eachLeadsKViews();
        turnsBeginAnew();
        votesGoToTheLeaderOfTheNextView();
        newViewsGoToTheLeaderOfTheEnteredView();
        correctLeadersTakeTurns();
        CHECK.end();
    }

    private static void eachLeadsKViews() {
        CHECK.sentence("The LEADER of view v is (v - 1) / k, rounded down: each one leads k views");
        for (int faults = 1; faults <= 2; faults++) {
            for (int k = 4; k <= 9; k++) {
                for (int r = 0; r < 3 * faults + 1; r++) {
                    dueTurn(faults, k, r, r * k + 1);
                }
            }
        }
    }

    private static void turnsBeginAnew() {
        CHECK.sentence("The LEADER of view v is (v - 1) / k modulo n");
        for (int faults = 1; faults <= 2; faults++) {
            int n = 3 * faults + 1;
            for (int k = 4; k <= 9; k++) {
                for (int r = 0; r < n; r++) {
                    dueTurn(faults, k, r, n * k + r * k + 1);
                    dueTurn(faults, k, r, 20 * n * k + r * k + 1);
                }
            }
        }
    }

    /** Replica r is corrupt; it can forge blocks from the view first on, k views long. */
    private static void dueTurn(int faults, int k, int r, int first) {
        ThreeChainLedger x = new ThreeChainLedger(faults, 1 << r, k);
        String call = "faults " + faults + ", turns " + k + ", replica " + r + " being corrupt: forge(0, ";
        CHECK.due(call + (first - 1) + ", 0)", x.forge(0, first - 1, 0), -1);
        CHECK.due(call + first + ", 0)", x.forge(0, first, 0), 1);
        CHECK.due(call + (first + k - 1) + ", 0)", x.forge(0, first + k - 1, 0), 2);
        CHECK.due(call + (first + k) + ", 0)", x.forge(0, first + k, 0), -1);
    }

    private static void votesGoToTheLeaderOfTheNextView() {
        CHECK.sentence("a VOTE for b goes to the leader of the view after b's view");
        // Replica 1 is corrupt and leads the views 5 to 8; replica 2 leads view 9.
        dueVoteTo(1, 2, 7, 1);
        dueVoteTo(1, 2, 8, 2);
        // Replica n - 1 is corrupt and leads the last views before the turns begin anew.
        dueVoteTo(1, 8, 15, 3);
        dueVoteTo(1, 8, 16, 0);
        dueVoteTo(2, 64, 27, 6);
        dueVoteTo(2, 64, 28, 0);
    }

    private static void dueVoteTo(int faults, int corrupt, int view, int leader) {
        ThreeChainLedger x = new ThreeChainLedger(faults, corrupt, 4);
        x.forge(0, view, 0);
        x.offer(1, 0);
        x.deliver(0);
        CHECK.due("message(0), a vote in view " + view, x.message(0), 1 + 4 * leader + 256);
    }

    private static void newViewsGoToTheLeaderOfTheEnteredView() {
        CHECK.sentence("a NEWVIEW for the view that it entered goes to the leader of that view");
        dueNewViewTo(1, 2, 7, 1);
        dueNewViewTo(1, 2, 8, 2);
        dueNewViewTo(1, 8, 15, 3);
        dueNewViewTo(1, 8, 16, 0);
        dueNewViewTo(2, 64, 27, 6);
        dueNewViewTo(2, 64, 28, 0);
    }

    /** Replica 0 stands in that view, as a proposal showed it, when its timer takes it to the next one. */
    private static void dueNewViewTo(int faults, int corrupt, int view, int leader) {
        ThreeChainLedger x = new ThreeChainLedger(faults, corrupt, 4);
        x.forge(0, view, 0);
        x.offer(1, 0);
        x.deliver(0);
        x.drop(0);
        x.tick(0);
        CHECK.due("tick(0) in view " + view, x.tick(0), view + 1);
        CHECK.due("message(0), out of view " + view, x.message(0), 2 + 4 * leader);
    }

    private static void correctLeadersTakeTurns() {
        CHECK.sentence("each one leads k views, one after the other");
        for (int k = 4; k <= 9; k++) {
            ThreeChainLedger x = new ThreeChainLedger(1, 0, k);
            for (int view = 1; view <= 4 * k + 1; view++) {
                int leader = view <= 4 * k ? (view - 1) / k : 0;
                int due = view < 40 ? view : -1;
                CHECK.due("turns " + k + ": lead(" + leader + ") in view " + view, x.lead(leader), due);
                x.flow(40);
            }
        }
    }
}
