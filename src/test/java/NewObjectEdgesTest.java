/** Promise 1: the edges of the three numbers that an object is made with. */
public final class NewObjectEdgesTest {
    private static final Check CHECK = new Check();

    public static void main(String[] args) {
        faults();
        quorumOfTheFaults();
        corruptBits();
        fewerThanFSmallerOnes();
        turnsBelowFour();
        turnsAboveNine();
        blockZeroAlone();
        firstState();
        CHECK.end();
    }

    private static void faults() {
        CHECK.sentence("f is 2 if faults is 2, else 1; there are n = 3f + 1 replicas 0 .. n - 1");
        int[] faults = {2, 1, 3, 0, -1, -2, 4, 258, Integer.MAX_VALUE, Integer.MIN_VALUE};
        for (int given : faults) {
            int n = given == 2 ? 7 : 4;
            ThreeChainLedger x = new ThreeChainLedger(given, 0, 4);
            String call = "faults " + given + ": ";
            CHECK.due(call + "state(-1, 0)", x.state(-1, 0), -1);
            for (int r = 0; r < n; r++) {
                CHECK.due(call + "state(" + r + ", 0)", x.state(r, 0), 1);
            }
            for (int r = n; r < 9; r++) {
                CHECK.due(call + "state(" + r + ", 0)", x.state(r, 0), -1);
            }
        }
    }

    private static void quorumOfTheFaults() {
        CHECK.sentence("f is 2 if faults is 2, else 1, by the 2f + 1 votes that show a certificate");
        int[] faults = {2, 1, 3};
        for (int given : faults) {
            int n = given == 2 ? 7 : 4;
            int quorum = given == 2 ? 5 : 3;
            ThreeChainLedger x = new ThreeChainLedger(given, 0, 4);
            x.lead(0);
            x.flow(n);
            x.flow(quorum - 1);
            CHECK.due("faults " + given + ": state(0, 5) after 2f votes", x.state(0, 5), 0);
            x.flow(1);
            CHECK.due("faults " + given + ": state(0, 5) after 2f + 1 votes", x.state(0, 5), 1);
        }
    }

    private static void corruptBits() {
        CHECK.sentence("Replica r is corrupt if bit r of corrupt is set (r from 0 to n - 1)");
        for (int faults = 1; faults <= 2; faults++) {
            int n = 3 * faults + 1;
            dueCorrupt(faults, 0, 0);
            for (int bit = 0; bit < 32; bit++) {
                dueCorrupt(faults, 1 << bit, bit < n ? 1 << bit : 0);
            }
            dueCorrupt(faults, -1 << n, 0);
            dueCorrupt(faults, -1 << n - 1, 1 << n - 1);
        }
        ThreeChainLedger x = new ThreeChainLedger(1, 16, 4);
        x.lead(0);
        CHECK.due("corrupt 16, four replicas: offer(1, 0)", x.offer(1, 0), false);
        ThreeChainLedger y = new ThreeChainLedger(1, 8, 4);
        y.lead(0);
        CHECK.due("corrupt 8, four replicas: offer(1, 0)", y.offer(1, 0), true);
    }

    private static void fewerThanFSmallerOnes() {
        CHECK.sentence("and fewer than f replicas with smaller numbers are corrupt");
        for (int faults = 1; faults <= 2; faults++) {
            int n = 3 * faults + 1;
            for (int corrupt = 0; corrupt < 1 << n; corrupt++) {
                int set = 0;
                for (int r = 0; r < n; r++) {
                    if ((corrupt >> r & 1) == 1 && Integer.bitCount(set) < faults) {
                        set |= 1 << r;
                    }
                }
                dueCorrupt(faults, corrupt, set);
            }
        }
    }

    private static void dueCorrupt(int faults, int corrupt, int set) {
        ThreeChainLedger x = new ThreeChainLedger(faults, corrupt, 4);
        for (int r = 0; r < 3 * faults + 1; r++) {
            String call = "faults " + faults + ", corrupt " + corrupt + ": state(" + r + ", 0)";
            CHECK.due(call, x.state(r, 0), (set >> r & 1) == 1 ? -1 : 1);
        }
    }

    private static void turnsBelowFour() {
        CHECK.sentence("k is turns, but 4 if that is below 4");
        dueTurns(5, 5);
        dueTurns(4, 4);
        dueTurns(3, 4);
        dueTurns(1, 4);
        dueTurns(0, 4);
        dueTurns(-1, 4);
        dueTurns(-5, 4);
        dueTurns(Integer.MIN_VALUE, 4);
    }

    private static void turnsAboveNine() {
        CHECK.sentence("k is turns, and 9 if it is above 9");
        dueTurns(6, 6);
        dueTurns(7, 7);
        dueTurns(8, 8);
        dueTurns(9, 9);
        dueTurns(10, 9);
        dueTurns(11, 9);
        dueTurns(Integer.MAX_VALUE, 9);
    }

    /** Replica 1 is corrupt; of the first 4k views it leads k + 1 to 2k, so just for those a block can be forged. */
    private static void dueTurns(int turns, int k) {
        ThreeChainLedger x = new ThreeChainLedger(1, 2, turns);
        int made = 0;
        for (int view = 1; view <= 4 * k; view++) {
            boolean leads = view > k && view <= 2 * k;
            made += leads ? 1 : 0;
            CHECK.due("turns " + turns + ": forge(0, " + view + ", 0)", x.forge(0, view, 0), leads ? made : -1);
        }
    }

    private static void blockZeroAlone() {
        CHECK.sentence("Block 0 is there; no transfers, no messages");
        for (int faults = 1; faults <= 2; faults++) {
            ThreeChainLedger x = new ThreeChainLedger(faults, 2, 4);
            CHECK.due("block(0)", x.block(0), 0);
            CHECK.due("payload(0)", x.payload(0), 0);
            CHECK.due("votes(0)", x.votes(0), 0);
            CHECK.due("block(1)", x.block(1), -1);
            CHECK.due("payload(1)", x.payload(1), -1);
            CHECK.due("votes(1)", x.votes(1), -1);
            CHECK.due("outcome(0, 0)", x.outcome(0, 0), -1);
            CHECK.due("forge(0, 5, 1) with a transfer that is not there", x.forge(0, 5, 1), -1);
            CHECK.due("waiting()", x.waiting(), 0);
            CHECK.due("message(0)", x.message(0), -1);
            CHECK.due("lost()", x.lost(), 0);
            CHECK.due("committed(0, 0)", x.committed(0, 0), 0);
            CHECK.due("committed(0, 1)", x.committed(0, 1), -1);
            for (int account = 0; account < 4; account++) {
                CHECK.due("balance(0, " + account + ")", x.balance(0, account), 100);
            }
        }
    }

    private static void firstState() {
        CHECK.sentence("a VIEW (at first 1), a TIMER (0), a PATIENCE (2), VOTED (0), PROPOSED (0), SAW (block 0)");
        for (int faults = 1; faults <= 2; faults++) {
            ThreeChainLedger x = new ThreeChainLedger(faults, 0, 4);
            for (int r = 0; r < 3 * faults + 1; r++) {
                CHECK.dueState(x, r, 1, 0, 2, 0, 0, 0, 0, 0, 0);
            }
        }
    }
}
