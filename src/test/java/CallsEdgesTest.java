/** "An object is used for at most 512 calls after it has been made": the 512th is answered as all before. */
public final class CallsEdgesTest {
    private static final int CALLS = 512;
    private static final Check CHECK = new Check();

    public static void main(String[] args) {
        CHECK.sentence("An object is used for at most 512 calls");
        ticks();
        ticksOfAFullRow();
        submits();
        forges();
        leads();
        offersAndDeliveries();
        votesAndFlows();
        claimsAndDrops();
        refusals();
        questions();
        CHECK.end();
    }

    private static void ticks() {
        ThreeChainLedger x = new ThreeChainLedger(1, 0, 4);
        Scene.ticks(x, 3, CALLS - 1);
        // 2 + 4 + 8 + 16 lead to view 5, and each 32 more to the next one: 30 + 15 * 32 = 510.
        CHECK.due("tick(3), the last", x.tick(3), 20);
    }

    private static void ticksOfAFullRow() {
        ThreeChainLedger x = Scene.withLiar();
        for (int i = 0; i < 40; i++) {
            x.claim(0, 1, 0, 0);
        }
        // Three replicas tick 157 times: 30 + 3 * 32 = 126, so that each of them loses 4 + 3 NEWVIEWs.
        for (int i = 0; i < 157; i++) {
            for (int r = 1; r < 4; r++) {
                x.tick(r);
            }
        }
        CHECK.due("lost(), the last", x.lost(), 21);
    }

    private static void submits() {
        ThreeChainLedger x = new ThreeChainLedger(2, 0, 4);
        for (int i = 0; i < CALLS; i++) {
            CHECK.due("submit " + i, x.submit(127, 0, 1, 1), i < 24 ? i : -1);
        }
    }

    private static void forges() {
        ThreeChainLedger x = Scene.withLiar();
        for (int i = 0; i < CALLS; i++) {
            CHECK.due("forge " + i, x.forge(0, 1 + i % 9, 0), i < 39 ? i + 1 : -1);
        }
    }

    private static void leads() {
        ThreeChainLedger x = new ThreeChainLedger(1, 0, 4);
        for (int i = 1; i <= CALLS / 2; i++) {
            int leader = i <= 40 ? (i - 1) / 4 % 4 : 1;
            CHECK.due("lead " + i, x.lead(leader), i < 40 ? i : -1);
            CHECK.due("flow " + i, x.flow(40), i < 40 ? 8 : 0);
        }
    }

    private static void offersAndDeliveries() {
        ThreeChainLedger x = Scene.withLiar();
        x.forge(0, 9, 0);
        x.waiting();
        // Replica 0 is corrupt; the first three proposals to the others are answered by votes, which stay waiting.
        for (int i = 0; i < (CALLS - 2) / 2; i++) {
            CHECK.due("offer " + i, x.offer(1, i % 4), true);
            CHECK.due("deliver " + i, x.deliver(Math.min(3, Math.max(0, i - 1))), i % 4 == 0 ? 0 : 1);
        }
    }

    private static void votesAndFlows() {
        ThreeChainLedger x = Scene.withLiar();
        x.forge(0, 1, 0);
        x.waiting();
        for (int i = 0; i < (CALLS - 2) / 2; i++) {
            CHECK.due("vote " + i, x.vote(0, 1, i % 4), true);
            CHECK.due("flow " + i, x.flow(1), 1);
        }
    }

    private static void claimsAndDrops() {
        ThreeChainLedger x = Scene.withLiar();
        for (int i = 0; i < CALLS / 2; i++) {
            CHECK.due("claim " + i, x.claim(0, 1 + i, 0, i % 4), true);
            CHECK.due("drop " + i, x.drop(0), true);
        }
    }

    private static void refusals() {
        ThreeChainLedger x = new ThreeChainLedger(1, 0, 4);
        for (int i = 0; i < CALLS - 1; i++) {
            CHECK.due("deliver " + i, x.deliver(i % 41 - 1), -1);
        }
        CHECK.due("lead(0), the last", x.lead(0), 1);
    }

    private static void questions() {
        ThreeChainLedger x = new ThreeChainLedger(1, 0, 4);
        x.submit(15, 0, 1, 30);
        for (int i = 0; i < 3; i++) {
            Scene.round(x, 0);
        }
        for (int i = 7; i < CALLS; i++) {
            CHECK.due("balance(0, 1)", x.balance(0, 1), 130);
        }
    }
}
