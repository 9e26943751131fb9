/** Promise 1: what a new object has, and how its three numbers are read. */
public final class NewObjectTest {
    private static final Check CHECK = new Check();

    public static void main(String[] args) {
        faultsTellTheReplicas();
        onlyTheFirstCorruptBitsCount();
        bitsOfNoReplicaMakeNoLiar();
        turnsAreKeptBetweenFourAndNine();
        aNewObjectIsEmpty();
        CHECK.end();
    }

    private static void faultsTellTheReplicas() {
        int[] faults = {1, 2, 0, 3, -1, -2, Integer.MAX_VALUE, Integer.MIN_VALUE};
        for (int given : faults) {
            ThreeChainLedger x = new ThreeChainLedger(given, 0, 4);
            int n = given == 2 ? 7 : 4;
            CHECK.due("faults " + given + ": state(n - 1, 0)", x.state(n - 1, 0), 1);
            CHECK.due("faults " + given + ": state(n, 0)", x.state(n, 0), -1);
            CHECK.due("faults " + given + ": state(-1, 0)", x.state(-1, 0), -1);
            CHECK.due("faults " + given + ": lead(0)", x.lead(0), 1);
            CHECK.due("faults " + given + ": waiting()", x.waiting(), n);
        }
    }

    private static void onlyTheFirstCorruptBitsCount() {
        dueCorrupt(1, 0, 0);
        dueCorrupt(1, 15, 1);
        dueCorrupt(1, 12, 4);
        dueCorrupt(1, 8, 8);
        dueCorrupt(1, 16, 0);
        dueCorrupt(1, -16, 0);
        dueCorrupt(1, -1, 1);
        dueCorrupt(1, Integer.MIN_VALUE, 0);
        dueCorrupt(2, 127, 3);
        dueCorrupt(2, 104, 40);
        dueCorrupt(2, 64, 64);
        dueCorrupt(2, 192, 64);
        dueCorrupt(2, -128, 0);
        dueCorrupt(2, -1, 3);
    }

    private static void dueCorrupt(int faults, int corrupt, int set) {
        ThreeChainLedger x = new ThreeChainLedger(faults, corrupt, 4);
        int n = faults == 2 ? 7 : 4;
        for (int r = 0; r < n; r++) {
            int view = (set >> r & 1) == 1 ? -1 : 1;
            CHECK.due("faults " + faults + ", corrupt " + corrupt + ": state(" + r + ", 0)", x.state(r, 0), view);
        }
    }

    private static void bitsOfNoReplicaMakeNoLiar() {
        ThreeChainLedger x = new ThreeChainLedger(1, 16, 4);
        x.lead(0);
        CHECK.due("offer(1, 2), nobody being corrupt", x.offer(1, 2), false);
        ThreeChainLedger y = new ThreeChainLedger(2, 129, 9);
        Scene.show(y, 0, 1, 0, 1, 2, 3);
        CHECK.due("votes(1)", y.votes(1), 14);
        CHECK.due("forge(1, 2, 0), three votes and one liar", y.forge(1, 2, 0), -1);
    }

    private static void turnsAreKeptBetweenFourAndNine() {
        int[] given = {4, 5, 6, 7, 8, 9, 3, 0, -1, Integer.MIN_VALUE, 10, 100, Integer.MAX_VALUE};
        int[] kept = {4, 5, 6, 7, 8, 9, 4, 4, 4, 4, 9, 9, 9};
        for (int i = 0; i < given.length; i++) {
            // Replica 1 is corrupt, so a block can be forged just for the views that it leads.
            ThreeChainLedger x = new ThreeChainLedger(1, 2, given[i]);
            int k = kept[i];
            CHECK.due("turns " + given[i] + ": forge(0, k, 0)", x.forge(0, k, 0), -1);
            CHECK.due("turns " + given[i] + ": forge(0, k + 1, 0)", x.forge(0, k + 1, 0), 1);
            CHECK.due("turns " + given[i] + ": forge(0, 2k, 0)", x.forge(0, 2 * k, 0), 2);
            CHECK.due("turns " + given[i] + ": forge(0, 2k + 1, 0)", x.forge(0, 2 * k + 1, 0), -1);
            CHECK.due("turns " + given[i] + ": forge(0, 5k, 0)", x.forge(0, 5 * k, 0), -1);
            CHECK.due("turns " + given[i] + ": forge(0, 5k + 1, 0)", x.forge(0, 5 * k + 1, 0), 3);
        }
    }

    private static void aNewObjectIsEmpty() {
        ThreeChainLedger x = new ThreeChainLedger(2, 0, 4);
        CHECK.due("block(0)", x.block(0), 0);
        CHECK.due("payload(0)", x.payload(0), 0);
        CHECK.due("votes(0)", x.votes(0), 0);
        CHECK.due("block(1)", x.block(1), -1);
        CHECK.due("waiting()", x.waiting(), 0);
        CHECK.due("lost()", x.lost(), 0);
        CHECK.due("outcome(0, 0)", x.outcome(0, 0), -1);
        int[] first = {1, 0, 2, 0, 0, 0, 0, 0, 0};
        for (int r = 0; r < 7; r++) {
            for (int what = 0; what < first.length; what++) {
                CHECK.due("state(" + r + ", " + what + ")", x.state(r, what), first[what]);
            }
        }
    }
}
