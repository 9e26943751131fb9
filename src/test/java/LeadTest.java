/** Promise 3: lead. */
public final class LeadTest {
    private static final Check CHECK = new Check();

    public static void main(String[] args) {
        proposalsGoToAllInOrder();
        twoLeastOfTheHeldOnesThatTheChainLacks();
        aBlockOfAnotherBranchDoesNotCount();
        onlyTheCorrectLeaderOnceAView();
        withoutCertificateOrPushItWaits();
        withPushItLeadsUponHigh();
        pushFromTooFewDoesNotCount();
        fortyBlocksAreTheMost();
        whatFindsNoRoomIsLost();
        CHECK.end();
    }

    private static void proposalsGoToAllInOrder() {
        ThreeChainLedger x = new ThreeChainLedger(2, 6, 4);
        CHECK.due("lead(0)", x.lead(0), 1);
        CHECK.due("waiting()", x.waiting(), 7);
        for (int r = 0; r < 7; r++) {
            CHECK.due("message(" + r + ")", x.message(r), 4 * r + 256);
        }
        CHECK.due("block(1)", x.block(1), 64);
        CHECK.due("state(0, 4)", x.state(0, 4), 1);
        CHECK.due("state(0, 3)", x.state(0, 3), 0);
        CHECK.due("votes(1)", x.votes(1), 0);
        x.flow(40);
        CHECK.due("second lead(0)", x.lead(0), 2);
        CHECK.due("block(2)", x.block(2), 64 * 2 + 1);
        CHECK.due("state(0, 4)", x.state(0, 4), 2);
        CHECK.due("message(6)", x.message(6), 4 * 6 + 256 * 2);
    }

    private static void twoLeastOfTheHeldOnesThatTheChainLacks() {
        ThreeChainLedger x = new ThreeChainLedger(1, 0, 4);
        int[] holders = {14, 1, 0, 15, 3, 12, 9, 1};
        for (int h : holders) {
            x.submit(h, 0, 1, 1);
        }
        int[] payloads = {0b1010, 0b1010000, 0b10000000, 0};
        for (int i = 0; i < payloads.length; i++) {
            Scene.round(x, 0);
            CHECK.due("payload(" + (i + 1) + ")", x.payload(i + 1), payloads[i]);
        }
        x.submit(2, 0, 1, 1);
        CHECK.due("lead(1)", x.lead(1), 5);
        CHECK.due("payload(5)", x.payload(5), 0b100000001);
    }

    private static void aBlockOfAnotherBranchDoesNotCount() {
        ThreeChainLedger x = new ThreeChainLedger(1, 0, 4);
        x.submit(15, 0, 1, 1);
        x.lead(0);
        for (int i = 0; i < 4; i++) {
            x.drop(0);
        }
        for (int r = 0; r < 3; r++) {
            Scene.ticks(x, r, 2);
        }
        x.flow(40);
        CHECK.due("lead(0)", x.lead(0), 2);
        CHECK.due("block(2)", x.block(2), 64 * 2);
        CHECK.due("payload(2)", x.payload(2), 1);
    }

    private static void onlyTheCorrectLeaderOnceAView() {
        ThreeChainLedger x = new ThreeChainLedger(1, 2, 4);
        int[] refused = {-1, 1, 2, 3, 4, Integer.MIN_VALUE, Integer.MAX_VALUE};
        for (int r : refused) {
            CHECK.due("lead(" + r + ")", x.lead(r), -1);
        }
        CHECK.due("block(1)", x.block(1), -1);
        CHECK.due("lead(0)", x.lead(0), 1);
        CHECK.due("lead(0) again", x.lead(0), -1);
        CHECK.due("block(2)", x.block(2), -1);
        CHECK.due("waiting()", x.waiting(), 4);
        for (int i = 0; i < 4; i++) {
            x.flow(40);
            x.lead(0);
        }
        CHECK.due("votes(4)", x.votes(4), 13);
        Scene.ticks(x, 2, 2);
        CHECK.due("state(2, 0)", x.state(2, 0), 5);
        CHECK.due("the corrupt leader's lead(1)", x.lead(1), -1);
    }

    private static void withoutCertificateOrPushItWaits() {
        ThreeChainLedger x = new ThreeChainLedger(1, 0, 4);
        Scene.ticks(x, 0, 2);
        CHECK.due("state(0, 0)", x.state(0, 0), 2);
        CHECK.due("lead(0) in view 2 upon block 0", x.lead(0), -1);
        CHECK.due("state(0, 4)", x.state(0, 4), 0);
        CHECK.due("block(1)", x.block(1), -1);
        ThreeChainLedger y = new ThreeChainLedger(1, 0, 4);
        Scene.round(y, 0);
        Scene.ticks(y, 0, 2);
        CHECK.due("state(0, 0) behind its certificate", y.state(0, 0), 3);
        CHECK.due("lead(0) two views after HIGH", y.lead(0), -1);
    }

    private static void withPushItLeadsUponHigh() {
        ThreeChainLedger x = new ThreeChainLedger(1, 0, 4);
        Scene.round(x, 0);
        for (int r = 1; r < 4; r++) {
            Scene.ticks(x, r, 6);
        }
        CHECK.due("state(1, 0)", x.state(1, 0), 3);
        x.flow(40);
        CHECK.due("state(0, 0)", x.state(0, 0), 3);
        CHECK.due("state(0, 8)", x.state(0, 8), 3);
        CHECK.due("lead(0)", x.lead(0), 2);
        CHECK.due("block(2)", x.block(2), 64 * 3 + 1);
        CHECK.due("state(0, 4)", x.state(0, 4), 3);
    }

    private static void pushFromTooFewDoesNotCount() {
        ThreeChainLedger x = new ThreeChainLedger(1, 0, 4);
        for (int r = 0; r < 2; r++) {
            Scene.ticks(x, r, 2);
        }
        x.flow(40);
        CHECK.due("state(0, 8)", x.state(0, 8), 0);
        CHECK.due("lead(0) after two NEWVIEWs", x.lead(0), -1);
        Scene.ticks(x, 2, 2);
        x.flow(40);
        CHECK.due("lead(0) after three NEWVIEWs", x.lead(0), 1);
        // PUSH stays 2 while the leader's own timer takes it on to view 3.
        ThreeChainLedger y = new ThreeChainLedger(1, 0, 4);
        for (int r = 0; r < 3; r++) {
            Scene.ticks(y, r, 2);
        }
        y.flow(40);
        Scene.ticks(y, 0, 4);
        CHECK.due("state(0, 0)", y.state(0, 0), 3);
        CHECK.due("state(0, 8)", y.state(0, 8), 2);
        CHECK.due("lead(0) with PUSH below its view", y.lead(0), -1);
    }

    private static void fortyBlocksAreTheMost() {
        ThreeChainLedger x = new ThreeChainLedger(1, 2, 4);
        for (int b = 1; b < 39; b++) {
            x.forge(0, 5, 0);
        }
        CHECK.due("lead(0), the 40th block", x.lead(0), 39);
        x.flow(40);
        CHECK.due("state(0, 0)", x.state(0, 0), 2);
        CHECK.due("lead(0), the 41st block", x.lead(0), -1);
        CHECK.due("block(40)", x.block(40), -1);
        CHECK.due("state(0, 4)", x.state(0, 4), 1);
        CHECK.due("waiting()", x.waiting(), 0);
    }

    private static void whatFindsNoRoomIsLost() {
        ThreeChainLedger x = new ThreeChainLedger(1, 2, 4);
        x.forge(0, 5, 0);
        Scene.fill(x, 1, 1, 2, 38);
        CHECK.due("lead(0) with room for two", x.lead(0), 2);
        CHECK.due("waiting()", x.waiting(), 40);
        CHECK.due("lost()", x.lost(), 2);
        CHECK.due("message(38)", x.message(38), 512);
        CHECK.due("message(39)", x.message(39), 516);
        CHECK.due("state(0, 4)", x.state(0, 4), 1);
        ThreeChainLedger y = new ThreeChainLedger(1, 2, 4);
        y.forge(0, 5, 0);
        Scene.fill(y, 1, 1, 2, 40);
        CHECK.due("lead(0) without room", y.lead(0), 2);
        CHECK.due("block(2)", y.block(2), 64);
        CHECK.due("lost()", y.lost(), 4);
        CHECK.due("lead(0) again", y.lead(0), -1);
    }
}
