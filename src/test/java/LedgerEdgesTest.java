import java.util.function.Supplier;

/** Promises 18 to 20: the edges of the ledger and of committed, balance and outcome. */
public final class LedgerEdgesTest {
    private static final Check CHECK = new Check();

    public static void main(String[] args) {
        accountsHave100();
        theAccountHasTheAmount();
        amountsCanEmptyAnAccount();
        fromBlockZeroOn();
        theLeastNumberFirst();
        metBeforeIsPassedOver();
        otherwiseNothingChanges();
        onlyTheChainOfTip();
        allTwentyFour();
        committedPlaces();
        committedOfACorrectReplica();
        balanceOfAnAccount();
        balanceOfACorrectReplica();
        outcomeOfATransfer();
        outcomeOfACorrectReplica();
        outcomeOutsideTheChain();
        CHECK.end();
    }

    /** The sets go into blocks of successive views; as three empty blocks follow, replica 1 commits them all. */
    private static void commit(ThreeChainLedger x, int... sets) {
        int parent = 0;
        for (int i = 0; i < sets.length + 3; i++) {
            parent = Scene.show(x, parent, 1 + i, i < sets.length ? sets[i] : 0, 1, 2, 3);
        }
        x.claim(0, 1, parent, 1);
        x.flow(40);
    }

    private static void dueBalances(ThreeChainLedger x, int... balances) {
        for (int account = 0; account < 4; account++) {
            CHECK.due("balance(1, " + account + ")", x.balance(1, account), balances[account]);
        }
    }

    private static void dueOutcomes(ThreeChainLedger x, int... outcomes) {
        for (int t = 0; t < outcomes.length; t++) {
            CHECK.due("outcome(1, " + t + ")", x.outcome(1, t), outcomes[t]);
        }
    }

    private static void accountsHave100() {
        CHECK.sentence("all accounts have 100 at first");
        ThreeChainLedger x = Scene.withLiar();
        dueBalances(x, 100, 100, 100, 100);
        commit(x, 0);
        CHECK.due("state(1, 7)", x.state(1, 7), 2);
        dueBalances(x, 100, 100, 100, 100);
    }

    private static void theAccountHasTheAmount() {
        CHECK.sentence("If the account has the amount, it goes over and the transfer is DONE");
        int[] amounts = {1, 99, 100, 101, 1000};
        for (int from = 0; from < 4; from++) {
            for (int amount : amounts) {
                ThreeChainLedger x = Scene.withLiar();
                int to = (from + 1) % 4;
                x.submit(0, from, to, amount);
                commit(x, 1);
                int moved = amount <= 100 ? amount : 0;
                CHECK.due("balance of " + from + " after " + amount, x.balance(1, from), 100 - moved);
                CHECK.due("balance of " + to + " after " + amount, x.balance(1, to), 100 + moved);
                CHECK.due("outcome after " + amount, x.outcome(1, 0), amount <= 100 ? 1 : 2);
            }
        }
    }

    private static void amountsCanEmptyAnAccount() {
        CHECK.sentence("If the account has the amount: it has just that, or 1 less, or nothing");
        ThreeChainLedger x = Scene.withLiar();
        x.submit(0, 0, 1, 100);
        x.submit(0, 0, 1, 1);
        x.submit(0, 1, 2, 200);
        x.submit(0, 2, 3, 301);
        x.submit(0, 2, 3, 300);
        x.submit(0, 3, 0, 400);
        commit(x, 0b111111);
        dueBalances(x, 400, 0, 0, 0);
        dueOutcomes(x, 1, 2, 1, 2, 1, 1);
    }

    private static void fromBlockZeroOn() {
        CHECK.sentence("The blocks of TIP's chain are gone through from block 0 on");
        ThreeChainLedger x = Scene.withLiar();
        x.submit(0, 1, 2, 150);
        x.submit(0, 0, 1, 50);
        commit(x, 0b10, 0b01);
        dueBalances(x, 50, 0, 250, 100);
        dueOutcomes(x, 1, 1);
        ThreeChainLedger y = Scene.withLiar();
        y.submit(0, 1, 2, 150);
        y.submit(0, 0, 1, 50);
        commit(y, 0b01, 0b10);
        dueBalances(y, 50, 150, 100, 100);
        dueOutcomes(y, 2, 1);
    }

    private static void theLeastNumberFirst() {
        CHECK.sentence("in each one its transfers by their numbers, the least first");
        ThreeChainLedger x = Scene.withLiar();
        x.submit(0, 1, 2, 150);
        x.submit(0, 0, 1, 50);
        commit(x, 0b11);
        dueBalances(x, 50, 150, 100, 100);
        dueOutcomes(x, 2, 1);
        ThreeChainLedger y = Scene.withLiar();
        y.submit(0, 0, 1, 50);
        y.submit(0, 1, 2, 150);
        commit(y, 0b11);
        dueBalances(y, 50, 0, 250, 100);
        dueOutcomes(y, 1, 1);
    }

    private static void metBeforeIsPassedOver() {
        CHECK.sentence("one that was met in the chain before is passed over");
        ThreeChainLedger x = Scene.withLiar();
        x.submit(0, 0, 1, 40);
        commit(x, 1, 1);
        dueBalances(x, 60, 140, 100, 100);
        dueOutcomes(x, 1);
        // A void one stays void, though the account has the amount when it is met again.
        ThreeChainLedger y = Scene.withLiar();
        y.submit(0, 0, 1, 140);
        y.submit(0, 2, 0, 40);
        commit(y, 0b01, 0b10, 0b01);
        dueBalances(y, 140, 100, 60, 100);
        dueOutcomes(y, 2, 1);
        // A done one stays done, though the account could not pay it again.
        ThreeChainLedger z = Scene.withLiar();
        z.submit(0, 0, 1, 100);
        commit(z, 1, 0, 1);
        dueBalances(z, 0, 200, 100, 100);
        dueOutcomes(z, 1);
    }

    private static void otherwiseNothingChanges() {
        CHECK.sentence("otherwise nothing changes and it is VOID");
        ThreeChainLedger x = Scene.withLiar();
        x.submit(0, 0, 1, 101);
        x.submit(0, 1, 2, 101);
        x.submit(0, 2, 3, 1000);
        commit(x, 0b111);
        dueBalances(x, 100, 100, 100, 100);
        dueOutcomes(x, 2, 2, 2);
    }

    private static void onlyTheChainOfTip() {
        CHECK.sentence("The blocks of TIP's chain: TIP is the last of them");
        ThreeChainLedger x = Scene.withLiar();
        for (int t = 0; t < 5; t++) {
            x.submit(0, 0, 1, 1 << t);
        }
        int aside = Scene.show(x, 0, 1, 0b10000, 1, 2, 3);
        int first = Scene.show(x, 0, 2, 0b00001, 1, 2, 3);
        int second = Scene.show(x, first, 3, 0b00010, 1, 2, 3);
        int third = Scene.show(x, second, 4, 0b00100, 1, 2, 3);
        int fourth = Scene.show(x, third, 5, 0b01000, 1, 2, 3);
        CHECK.due("aside", aside, 1);
        CHECK.due("state(1, 7)", x.state(1, 7), first);
        dueBalances(x, 99, 101, 100, 100);
        dueOutcomes(x, 1, 0, 0, 0, 0, -1);
        Scene.show(x, fourth, 6, 0, 1, 2, 3);
        CHECK.due("state(1, 7)", x.state(1, 7), second);
        dueBalances(x, 97, 103, 100, 100);
        dueOutcomes(x, 1, 1, 0, 0, 0, -1);
    }

    private static void allTwentyFour() {
        CHECK.sentence("its transfers by their numbers, the least first, all 24");
        // Each account gives 4 to the next one six times, but for the last transfer, before which account 3 has 104.
        for (int last = 104; last <= 105; last++) {
            ThreeChainLedger x = Scene.withLiar();
            for (int t = 0; t < 24; t++) {
                x.submit(0, t % 4, (t + 1) % 4, t == 23 ? last : 4);
            }
            commit(x, 0xFFFFFF);
            for (int t = 0; t < 23; t++) {
                CHECK.due("outcome(1, " + t + ")", x.outcome(1, t), 1);
            }
            CHECK.due("outcome(1, 23), an amount of " + last, x.outcome(1, 23), last == 104 ? 1 : 2);
            int moved = last == 104 ? 104 : 0;
            dueBalances(x, 96 + moved, 100, 100, 104 - moved);
        }
    }

    /** Blocks 1 to count, each upon the one before, of successive views and led by correct replicas. */
    private static ThreeChainLedger led(int count) {
        ThreeChainLedger x = new ThreeChainLedger(1, 8, 9);
        for (int view = 1; view <= count; view++) {
            Scene.round(x, (view - 1) / 9);
        }
        return x;
    }

    private static void committedPlaces() {
        CHECK.sentence("committed: -1 if the chain has no such place, place 0 being block 0");
        int[] counts = {0, 2, 3, 4, 27};
        for (int count : counts) {
            ThreeChainLedger x = led(count);
            int leader = Math.max(0, (count - 1) / 9);
            // The leader of all those views got the votes for the last block, unless the next one leads another turn.
            int tip = Math.max(0, x.state(leader, 7));
            CHECK.due("TIP after " + count, tip, Math.max(0, count % 9 == 0 ? count - 3 : count - 2));
            for (int i = 0; i <= tip; i++) {
                CHECK.due("committed(" + leader + ", " + i + ") after " + count, x.committed(leader, i), i);
            }
            int[] none = {-1, tip + 1, tip + 2, 39, 40, Integer.MIN_VALUE, Integer.MAX_VALUE};
            for (int i : none) {
                String call = "committed(" + leader + ", " + i + ") after " + count;
                CHECK.refused(call, () -> led(count), y -> y.committed(leader, i));
            }
        }
        longestChain();
    }

    private static void longestChain() {
        ThreeChainLedger x = new ThreeChainLedger(1, 0, 4);
        for (int view = 1; view <= 39; view++) {
            Scene.round(x, (view - 1) / 4 % 4);
        }
        // Views 37 to 40 are led by replica 1, which got the votes for block 39 of view 39.
        CHECK.due("state(1, 7) of 40 blocks", x.state(1, 7), 37);
        for (int i = 0; i <= 37; i++) {
            CHECK.due("committed(1, " + i + ") of 40 blocks", x.committed(1, i), i);
        }
        CHECK.due("committed(1, 38) of 40 blocks", x.committed(1, 38), -1);
        // A chain that leaves blocks out: the places are those of the chain, not the numbers.
        ThreeChainLedger y = Scene.withLiar();
        y.forge(0, 1, 0);
        int first = Scene.show(y, 0, 2, 0, 1, 2, 3);
        y.forge(first, 3, 0);
        int second = Scene.show(y, first, 4, 0, 1, 2, 3);
        int third = Scene.show(y, second, 5, 0, 1, 2, 3);
        int fourth = Scene.show(y, third, 6, 0, 1, 2, 3);
        Scene.show(y, fourth, 7, 0, 1, 2, 3);
        int[] chain = {0, first, second, -1};
        for (int i = 0; i < chain.length; i++) {
            CHECK.due("committed(2, " + i + ") past a block aside", y.committed(2, i), chain[i]);
        }
    }

    private static void committedOfACorrectReplica() {
        CHECK.sentence("committed: -1 if r is not a correct replica");
        int[] none = {-1, 3, 4, 32, Integer.MIN_VALUE, Integer.MAX_VALUE};
        for (int r : none) {
            CHECK.refused("committed(" + r + ", 0)", () -> led(4), x -> x.committed(r, 0));
        }
        for (int r = 0; r < 3; r++) {
            CHECK.due("committed(" + r + ", 0)", led(4).committed(r, 0), 0);
        }
        CHECK.due("committed(6, 0) of seven", new ThreeChainLedger(2, 3, 4).committed(6, 0), 0);
        CHECK.due("committed(7, 0) of seven", new ThreeChainLedger(2, 3, 4).committed(7, 0), -1);
        CHECK.due("committed(1, 0) of seven, corrupt", new ThreeChainLedger(2, 3, 4).committed(1, 0), -1);
    }

    /** Four replicas, 3 being corrupt; of two transfers 0 is committed by replica 0, 1 is in no block. */
    private static ThreeChainLedger paid() {
        ThreeChainLedger x = new ThreeChainLedger(1, 8, 9);
        x.submit(1, 0, 3, 30);
        x.submit(2, 1, 2, 30);
        for (int i = 0; i < 3; i++) {
            Scene.round(x, 0);
        }
        return x;
    }

    private static void balanceOfAnAccount() {
        CHECK.sentence("balance: -1 if the account is not 0 .. 3");
        int[] balances = {70, 100, 100, 130};
        for (int account = 0; account < 4; account++) {
            CHECK.due("balance(0, " + account + ")", paid().balance(0, account), balances[account]);
        }
        int[] none = {-1, 4, 5, Integer.MIN_VALUE, Integer.MAX_VALUE};
        for (int account : none) {
            CHECK.refused("balance(0, " + account + ")", LedgerEdgesTest::paid, x -> x.balance(0, account));
        }
    }

    private static void balanceOfACorrectReplica() {
        CHECK.sentence("balance: -1 if r is not a correct replica");
        int[] none = {-1, 3, 4, 32, Integer.MIN_VALUE, Integer.MAX_VALUE};
        for (int r : none) {
            CHECK.refused("balance(" + r + ", 0)", LedgerEdgesTest::paid, x -> x.balance(r, 0));
        }
        int[] balances = {70, 100, 100};
        for (int r = 0; r < 3; r++) {
            CHECK.due("balance(" + r + ", 0)", paid().balance(r, 0), balances[r]);
        }
        CHECK.due("balance(6, 0) of seven", new ThreeChainLedger(2, 3, 4).balance(6, 0), 100);
        CHECK.due("balance(7, 0) of seven", new ThreeChainLedger(2, 3, 4).balance(7, 0), -1);
    }

    private static void outcomeOfATransfer() {
        CHECK.sentence("outcome: -1 if there is no such transfer");
        CHECK.due("outcome(0, 0)", paid().outcome(0, 0), 1);
        CHECK.due("outcome(0, 1)", paid().outcome(0, 1), 0);
        int[] none = {-1, 2, 3, 24, Integer.MIN_VALUE, Integer.MAX_VALUE};
        for (int t : none) {
            CHECK.refused("outcome(0, " + t + ")", LedgerEdgesTest::paid, x -> x.outcome(0, t));
        }
        ThreeChainLedger empty = new ThreeChainLedger(1, 0, 4);
        CHECK.due("outcome(0, 0), no transfers being there", empty.outcome(0, 0), -1);
        ThreeChainLedger full = new ThreeChainLedger(1, 0, 4);
        for (int t = 0; t < 24; t++) {
            full.submit(0, 0, 1, 1);
        }
        CHECK.due("outcome(0, 23), 24 being there", full.outcome(0, 23), 0);
        CHECK.due("outcome(0, 24), 24 being there", full.outcome(0, 24), -1);
    }

    private static void outcomeOfACorrectReplica() {
        CHECK.sentence("outcome: -1 if r is not a correct replica");
        int[] none = {-1, 3, 4, 32, Integer.MIN_VALUE, Integer.MAX_VALUE};
        for (int r : none) {
            CHECK.refused("outcome(" + r + ", 0)", LedgerEdgesTest::paid, x -> x.outcome(r, 0));
        }
        int[] outcomes = {1, 0, 0};
        for (int r = 0; r < 3; r++) {
            CHECK.due("outcome(" + r + ", 0)", paid().outcome(r, 0), outcomes[r]);
        }
    }

    private static void outcomeOutsideTheChain() {
        CHECK.sentence("outcome: 0 if it is in no block of TIP's chain");
        Supplier<ThreeChainLedger> scene = () -> {
            ThreeChainLedger x = Scene.withLiar();
            for (int t = 0; t < 4; t++) {
                x.submit(15, 0, 1, 1);
            }
            Scene.show(x, 0, 1, 0b0001, 1, 2, 3);
            Scene.show(x, 0, 2, 0b0010, 1, 2, 3);
            Scene.show(x, 2, 3, 0b0100, 1, 2, 3);
            Scene.show(x, 3, 4, 0, 1, 2, 3);
            return x;
        };
        ThreeChainLedger x = scene.get();
        CHECK.due("state(1, 7), the certificate of view 4 not being seen", x.state(1, 7), 0);
        dueOutcomes(x, 0, 0, 0, 0);
        x.claim(0, 1, 4, 1);
        x.flow(40);
        CHECK.due("state(1, 7)", x.state(1, 7), 2);
        dueOutcomes(x, 0, 1, 0, 0);
    }
}
