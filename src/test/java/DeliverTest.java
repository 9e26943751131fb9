/** Promise 5: deliver, and what a replica does with each kind of message. */
public final class DeliverTest {
    private static final Check CHECK = new Check();

    public static void main(String[] args) {
        anyPlaceCanBeDelivered();
        theMessageLeavesTheRowFirst();
        aCorruptReplicaDoesNothing();
        aProposalOfALaterViewIsEnteredAndVotedFor();
        whatDoesNotLeadOnLeavesTheTimer();
        oneVoteAViewAndNoneBehind();
        aProposalShowsItsParentsCertificate();
        theLockIsKept();
        aLaterParentFreesFromTheLock();
        votesOfDifferentReplicasMakeACertificate();
        sevenReplicasNeedFiveVotes();
        newViewsPush();
        aNewViewShowsItsCertificate();
        CHECK.end();
    }

    private static void anyPlaceCanBeDelivered() {
        ThreeChainLedger x = new ThreeChainLedger(1, 0, 4);
        CHECK.due("deliver(0) of an empty row", x.deliver(0), -1);
        x.lead(0);
        int[] refused = {-1, 4, 40, Integer.MIN_VALUE, Integer.MAX_VALUE};
        for (int i : refused) {
            CHECK.due("deliver(" + i + ")", x.deliver(i), -1);
        }
        CHECK.due("waiting()", x.waiting(), 4);
        CHECK.due("deliver(2)", x.deliver(2), 1);
        CHECK.due("votes(1)", x.votes(1), 4);
        int[] row = {256, 260, 268, 1 + 32 * 2 + 256};
        for (int i = 0; i < row.length; i++) {
            CHECK.due("message(" + i + ")", x.message(i), row[i]);
        }
        CHECK.due("deliver(3), the vote", x.deliver(3), 1);
        CHECK.due("waiting()", x.waiting(), 3);
    }

    private static void theMessageLeavesTheRowFirst() {
        ThreeChainLedger x = new ThreeChainLedger(1, 2, 4);
        x.forge(0, 5, 0);
        x.lead(0);
        Scene.fill(x, 1, 1, 2, 36);
        CHECK.due("waiting()", x.waiting(), 40);
        CHECK.due("deliver(3)", x.deliver(3), 1);
        CHECK.due("waiting() with the vote", x.waiting(), 40);
        CHECK.due("lost()", x.lost(), 0);
        CHECK.due("message(39)", x.message(39), 1 + 32 * 3 + 512);
    }

    private static void aCorruptReplicaDoesNothing() {
        ThreeChainLedger x = new ThreeChainLedger(1, 2, 4);
        x.lead(0);
        CHECK.due("deliver(1)", x.deliver(1), 0);
        CHECK.due("waiting()", x.waiting(), 3);
        CHECK.due("votes(1)", x.votes(1), 0);
    }

    private static void aProposalOfALaterViewIsEnteredAndVotedFor() {
        ThreeChainLedger x = new ThreeChainLedger(1, 1, 4);
        x.forge(0, 4, 0);
        Scene.ticks(x, 1, 3);
        x.drop(0);
        CHECK.due("state(1, 0)", x.state(1, 0), 2);
        x.offer(1, 1);
        CHECK.due("deliver(0)", x.deliver(0), 1);
        int[] state = {4, 0, 4, 4, 0, 0, 0, 0, 0};
        for (int what = 0; what < state.length; what++) {
            CHECK.due("state(1, " + what + ")", x.state(1, what), state[what]);
        }
        CHECK.due("votes(1)", x.votes(1), 2);
        CHECK.due("message(0), to the leader of view 5", x.message(0), 1 + 4 + 32 + 256);
    }

    private static void whatDoesNotLeadOnLeavesTheTimer() {
        ThreeChainLedger x = new ThreeChainLedger(1, 0, 4);
        x.lead(0);
        x.tick(1);
        x.deliver(1);
        CHECK.due("votes(1)", x.votes(1), 2);
        CHECK.due("state(1, 1), the proposal being of its own view", x.state(1, 1), 1);
        ThreeChainLedger y = new ThreeChainLedger(1, 0, 4);
        for (int r = 1; r < 4; r++) {
            Scene.ticks(y, r, 2);
        }
        y.flow(40);
        CHECK.due("state(0, 8)", y.state(0, 8), 2);
        Scene.ticks(y, 0, 1);
        Scene.ticks(y, 3, 4);
        y.flow(40);
        CHECK.due("state(0, 8), the least of 2, 2 and 3", y.state(0, 8), 2);
        CHECK.due("state(0, 1), PUSH being its own view", y.state(0, 1), 1);
    }

    private static void oneVoteAViewAndNoneBehind() {
        ThreeChainLedger x = Scene.withLiar();
        Scene.show(x, 0, 3, 0, 1);
        Scene.show(x, 0, 3, 0, 1, 2);
        CHECK.due("votes(2)", x.votes(2), 4);
        Scene.show(x, 0, 2, 0, 1, 3);
        CHECK.due("votes(3)", x.votes(3), 8);
        CHECK.due("state(1, 0)", x.state(1, 0), 3);
        CHECK.due("state(1, 3)", x.state(1, 3), 3);
        // The timer took replica 3 on to view 4, where it has not voted yet.
        Scene.ticks(x, 3, 6);
        CHECK.due("state(3, 0)", x.state(3, 0), 4);
        Scene.show(x, 0, 4, 0, 3);
        CHECK.due("votes(4)", x.votes(4), 8);
        Scene.show(x, 0, 3, 0, 3);
        CHECK.due("votes(5), of a view that is left", x.votes(5), 0);
    }

    private static void aProposalShowsItsParentsCertificate() {
        ThreeChainLedger x = Scene.withLiar();
        Scene.show(x, 0, 1, 0, 1, 2);
        Scene.ticks(x, 3, 3);
        x.flow(40);
        CHECK.due("state(3, 2)", x.state(3, 2), 4);
        int b = Scene.show(x, 1, 5, 0, 3);
        CHECK.due("state(3, 0)", x.state(3, 0), 5);
        CHECK.due("state(3, 2), the certificate being behind", x.state(3, 2), 4);
        CHECK.due("state(3, 5)", x.state(3, 5), 1);
        Scene.show(x, 1, 5, 0, 1);
        x.offer(b, 2);
        x.flow(40);
        CHECK.due("votes(2)", x.votes(2), 12);
        // Block 2 of view 5 has a certificate now; replica 3 stands in its view, and goes on by seeing it.
        Scene.ticks(x, 3, 1);
        Scene.show(x, 2, 8, 0, 3);
        CHECK.due("state(3, 0)", x.state(3, 0), 8);
        CHECK.due("state(3, 1)", x.state(3, 1), 0);
        CHECK.due("state(3, 2)", x.state(3, 2), 2);
        CHECK.due("state(3, 5)", x.state(3, 5), 2);
        // A block that comes too late still shows its parent's certificate.
        Scene.ticks(x, 1, 2 + 4);
        x.flow(40);
        CHECK.due("state(1, 0)", x.state(1, 0), 7);
        Scene.show(x, 2, 6, 0, 1);
        CHECK.due("state(1, 5)", x.state(1, 5), 2);
        CHECK.due("state(1, 0) after it", x.state(1, 0), 7);
        CHECK.due("state(1, 3) after it", x.state(1, 3), 5);
    }

    private static void theLockIsKept() {
        ThreeChainLedger x = Scene.withLiar();
        Scene.show(x, 0, 1, 0, 1, 2, 3);
        Scene.show(x, 1, 2, 0, 1, 2, 3);
        Scene.show(x, 2, 3, 0, 1);
        CHECK.due("state(1, 6)", x.state(1, 6), 1);
        CHECK.due("state(2, 6)", x.state(2, 6), 0);
        Scene.show(x, 0, 4, 0, 1, 2);
        CHECK.due("votes(4), without the one that is locked", x.votes(4), 4);
        CHECK.due("state(1, 0), in the view all the same", x.state(1, 0), 4);
        CHECK.due("state(1, 3)", x.state(1, 3), 3);
        Scene.show(x, 1, 4, 0, 1);
        CHECK.due("votes(5), upon the lock itself", x.votes(5), 2);
        Scene.show(x, 2, 5, 0, 1);
        CHECK.due("votes(6), the lock deeper in the chain", x.votes(6), 2);
    }

    private static void aLaterParentFreesFromTheLock() {
        ThreeChainLedger x = Scene.withLiar();
        Scene.show(x, 0, 1, 0, 1, 2);
        Scene.show(x, 1, 2, 0, 1, 2);
        Scene.show(x, 2, 3, 0, 1);
        Scene.show(x, 0, 4, 0, 2, 3);
        CHECK.due("votes(4)", x.votes(4), 12);
        Scene.show(x, 4, 5, 0, 1);
        CHECK.due("state(1, 6)", x.state(1, 6), 1);
        CHECK.due("state(1, 5)", x.state(1, 5), 4);
        CHECK.due("votes(5)", x.votes(5), 2);
    }

    private static void votesOfDifferentReplicasMakeACertificate() {
        ThreeChainLedger x = new ThreeChainLedger(1, 2, 4);
        x.lead(0);
        x.drop(3);
        x.flow(3);
        CHECK.due("votes(1)", x.votes(1), 5);
        x.flow(40);
        CHECK.due("state(0, 5) after the votes of 0 and 2", x.state(0, 5), 0);
        x.vote(1, 1, 0);
        x.flow(40);
        CHECK.due("state(0, 5) after the votes of 0, 1 and 2", x.state(0, 5), 1);
        ThreeChainLedger y = new ThreeChainLedger(1, 2, 4);
        y.lead(0);
        y.deliver(0);
        y.drop(0);
        y.drop(0);
        y.drop(0);
        for (int i = 0; i < 3; i++) {
            y.vote(1, 1, 0);
        }
        y.flow(40);
        CHECK.due("state(0, 5) after four votes of two replicas", y.state(0, 5), 0);
        CHECK.due("state(0, 0)", y.state(0, 0), 1);
        // Votes for a block of view 9 go to replica 1, which leads view 10.
        ThreeChainLedger z = Scene.withLiar();
        Scene.show(z, 0, 9, 0, 1, 2);
        CHECK.due("state(1, 5), votes of 1 and 2 alone", z.state(1, 5), 0);
        z.vote(0, 1, 1);
        z.flow(40);
        CHECK.due("state(1, 5), with the corrupt one's", z.state(1, 5), 1);
        CHECK.due("state(1, 0)", z.state(1, 0), 10);
    }

    private static void sevenReplicasNeedFiveVotes() {
        ThreeChainLedger x = new ThreeChainLedger(2, 0, 4);
        x.lead(0);
        for (int i = 0; i < 7; i++) {
            x.deliver(0);
        }
        for (int got = 1; got <= 4; got++) {
            x.deliver(0);
            CHECK.due("state(0, 5) after " + got + " votes", x.state(0, 5), 0);
        }
        x.deliver(0);
        CHECK.due("state(0, 5) after 5 votes", x.state(0, 5), 1);
        CHECK.due("state(0, 0)", x.state(0, 0), 2);
        Scene.ticks(x, 0, 1);
        x.flow(40);
        CHECK.due("state(0, 1), later votes change nothing", x.state(0, 1), 1);
    }

    private static void newViewsPush() {
        ThreeChainLedger w = new ThreeChainLedger(1, 0, 4);
        Scene.ticks(w, 0, 2);
        Scene.ticks(w, 1, 2 + 4);
        Scene.ticks(w, 2, 2 + 4);
        w.flow(40);
        CHECK.due("state(0, 8), of 2, 3 and 3", w.state(0, 8), 2);
        ThreeChainLedger x = Scene.withLiar();
        x.claim(0, 7, 0, 1);
        x.claim(0, 3, 0, 1);
        x.flow(40);
        CHECK.due("state(1, 8) after one replica's", x.state(1, 8), 0);
        // Views 5, 6 and 7 are led by replica 1 here, and the NEWVIEWs of all three go there.
        ThreeChainLedger y = new ThreeChainLedger(1, 1, 4);
        Scene.ticks(y, 2, 30);
        Scene.ticks(y, 3, 62);
        CHECK.due("state(2, 0)", y.state(2, 0), 5);
        CHECK.due("state(3, 0)", y.state(3, 0), 6);
        y.flow(40);
        CHECK.due("state(1, 8), two replicas", y.state(1, 8), 0);
        CHECK.due("state(1, 0), two replicas", y.state(1, 0), 1);
        y.tick(1);
        y.claim(0, Integer.MAX_VALUE, 0, 1);
        y.flow(40);
        CHECK.due("state(1, 8), three replicas", y.state(1, 8), 5);
        CHECK.due("state(1, 0), three replicas", y.state(1, 0), 5);
        CHECK.due("state(1, 1)", y.state(1, 1), 0);
        CHECK.due("state(1, 2)", y.state(1, 2), 2);
        y.claim(0, 1, 0, 1);
        y.flow(40);
        CHECK.due("state(1, 8), the greatest counts", y.state(1, 8), 5);
        Scene.ticks(y, 2, 32);
        y.flow(40);
        CHECK.due("state(1, 8), a later one of the same replica", y.state(1, 8), 6);
        CHECK.due("state(1, 0)", y.state(1, 0), 6);
    }

    private static void aNewViewShowsItsCertificate() {
        ThreeChainLedger x = Scene.withLiar();
        Scene.show(x, 0, 3, 0, 1, 2);
        Scene.ticks(x, 3, 3);
        x.flow(40);
        CHECK.due("state(3, 2)", x.state(3, 2), 4);
        CHECK.due("claim(0, 1, 1, 3)", x.claim(0, 1, 1, 3), true);
        x.flow(40);
        int[] state = {4, 0, 2, 0, 0, 1, 0, 0, 0};
        for (int what = 0; what < state.length; what++) {
            CHECK.due("state(3, " + what + ")", x.state(3, what), state[what]);
        }
    }
}
