/** Terms: the edges of what a replica does with a PROPOSAL, a VOTE or a NEWVIEW that it gets. */
public final class MessageGotEdgesTest {
    private static final Check CHECK = new Check();

    public static void main(String[] args) {
        aProposalBelowItsView();
        aProposalOfItsView();
        aProposalAboveItsView();
        aProposalShowsTheParentFirst();
        votedIsBelow();
        lockInTheChain();
        lockNotInTheChain();
        theParentAboveTheLock();
        votesOfAQuorum();
        votesOfDifferentReplicas();
        votesForOneBlock();
        votesToOneReplica();
        aCertificateOfVotesBehind();
        pushAboveItsView();
        pushIsItsView();
        pushBelowItsView();
        aNewViewShowsItsBlockFirst();
        aNewViewOfALaterBlockThanPush();
        aCorruptReplicaDoesNothing();
        aReplicaSendsToItself();
        CHECK.end();
    }

    /** Block 1 of view 3 is there; replica 1 is in that view, with the timer 1. */
    private static ThreeChainLedger inView(int view) {
        ThreeChainLedger x = Scene.withLiar();
        x.forge(0, 3, 0);
        int patience = 2;
        for (int v = 1; v < view; v++) {
            Scene.ticks(x, 1, patience);
            patience = 2 * patience;
        }
        x.tick(1);
        x.flow(40);
        return x;
    }

    private static void got(ThreeChainLedger x, int b, int r) {
        x.offer(b, r);
        x.deliver(x.waiting() - 1);
    }

    private static void aProposalBelowItsView() {
        CHECK.sentence("if its view is b's view, it votes: its view is one above");
        ThreeChainLedger x = inView(4);
        got(x, 1, 1);
        CHECK.dueState(x, 1, 4, 1, 16, 0, 0, 0);
        CHECK.due("votes(1)", x.votes(1), 0);
        CHECK.due("waiting()", x.waiting(), 0);
    }

    private static void aProposalOfItsView() {
        CHECK.sentence("if its view is below b's view, it enters b's view: it is b's view");
        ThreeChainLedger x = inView(3);
        got(x, 1, 1);
        CHECK.dueState(x, 1, 3, 1, 8, 3, 0, 0);
        CHECK.due("votes(1)", x.votes(1), 2);
        CHECK.due("waiting()", x.waiting(), 1);
        CHECK.due("message(0)", x.message(0), 1 + 32 + 256);
    }

    private static void aProposalAboveItsView() {
        CHECK.sentence("if its view is below b's view, it enters b's view: it is one or two below");
        for (int view = 1; view <= 2; view++) {
            ThreeChainLedger x = inView(view);
            got(x, 1, 1);
            CHECK.dueState(x, 1, 3, 0, 2 * view, 3, 0, 0);
            CHECK.due("votes(1)", x.votes(1), 2);
            CHECK.due("waiting()", x.waiting(), 1);
        }
    }

    private static void aProposalShowsTheParentFirst() {
        CHECK.sentence("it sees the certificate of b's parent. Then, if its view is below b's, it enters that");
        // Block 1 of view 3 has the votes of 2 and 3, block 2 of view 6 comes upon it.
        int[][] due = {{}, {6, 0, 2, 6, 0, 1}, {6, 0, 2, 6, 0, 1}, {6, 0, 2, 6, 0, 1}, {6, 0, 16, 6, 0, 1}};
        for (int view = 1; view <= 4; view++) {
            ThreeChainLedger x = inView(view);
            got(x, 1, 2);
            got(x, 1, 3);
            x.flow(40);
            x.forge(1, 6, 0);
            got(x, 2, 1);
            CHECK.dueState(x, 1, due[view]);
        }
        // The same upon the view at once after the parent's: seeing the parent leads into it.
        ThreeChainLedger y = inView(3);
        got(y, 1, 2);
        got(y, 1, 3);
        y.flow(40);
        y.forge(1, 4, 0);
        got(y, 2, 1);
        CHECK.dueState(y, 1, 4, 0, 2, 4, 0, 1);
        // A proposal of a view that is left behind shows its parent all the same.
        ThreeChainLedger z = inView(5);
        got(z, 1, 2);
        got(z, 1, 3);
        z.flow(40);
        z.forge(1, 4, 0);
        got(z, 2, 1);
        CHECK.dueState(z, 1, 5, 1, 32, 0, 0, 1);
        CHECK.due("votes(2)", z.votes(2), 0);
    }

    private static void votedIsBelow() {
        CHECK.sentence("VOTED is below b's view");
        ThreeChainLedger x = Scene.withLiar();
        x.forge(0, 3, 0);
        x.forge(0, 3, 0);
        x.forge(0, 4, 0);
        got(x, 1, 1);
        got(x, 1, 1);
        CHECK.due("waiting() after the same proposal twice", x.waiting(), 1);
        got(x, 2, 1);
        CHECK.due("votes(2), VOTED being b's view", x.votes(2), 0);
        CHECK.due("waiting()", x.waiting(), 1);
        got(x, 3, 1);
        CHECK.due("votes(3), VOTED being one below b's view", x.votes(3), 2);
        CHECK.due("state(1, 3)", x.state(1, 3), 4);
        CHECK.due("waiting()", x.waiting(), 2);
    }

    private static final int EARLY = 1;
    private static final int LOCKED = 2;
    private static final int ASIDE = 3;
    private static final int UPON_LOCKED = 4;
    private static final int LAST = 5;

    /**
     * EARLY, LOCKED and ASIDE are upon block 0, of the views 3, 4 and 5; UPON_LOCKED is of view 6; these four have
     * certificates. LAST is of view 7 and shows that of UPON_LOCKED to replica 1, whose LOCK is LOCKED then.
     */
    private static ThreeChainLedger locked() {
        ThreeChainLedger x = Scene.withLiar();
        x.forge(0, 3, 0);
        x.forge(0, 4, 0);
        x.forge(0, 5, 0);
        got(x, EARLY, 2);
        got(x, EARLY, 3);
        got(x, LOCKED, 1);
        got(x, LOCKED, 2);
        got(x, ASIDE, 2);
        got(x, ASIDE, 3);
        x.forge(LOCKED, 6, 0);
        got(x, UPON_LOCKED, 1);
        got(x, UPON_LOCKED, 2);
        x.forge(UPON_LOCKED, 7, 0);
        got(x, LAST, 1);
        x.flow(40);
        return x;
    }

    private static void dueLocked(ThreeChainLedger x) {
        CHECK.dueState(x, 1, 7, 0, 2, 7, 0, UPON_LOCKED, LOCKED, 0, 0);
    }

    private static void lockInTheChain() {
        CHECK.sentence("LOCK is in the chain of b");
        ThreeChainLedger x = locked();
        dueLocked(x);
        CHECK.due("forge upon LOCK", x.forge(LOCKED, 8, 0), 6);
        got(x, 6, 1);
        CHECK.due("votes(6), b's parent being LOCK", x.votes(6), 2);
        ThreeChainLedger y = locked();
        CHECK.due("forge upon a block upon LOCK", y.forge(UPON_LOCKED, 8, 0), 6);
        got(y, 6, 1);
        CHECK.due("votes(6), LOCK being the parent's parent", y.votes(6), 2);
        // Block 0 is in every chain, so one whose LOCK is block 0 votes for any.
        ThreeChainLedger z = locked();
        z.forge(0, 8, 0);
        CHECK.due("state(3, 6)", z.state(3, 6), 0);
        got(z, 6, 3);
        CHECK.due("votes(6), LOCK being block 0", z.votes(6), 8);
    }

    private static void lockNotInTheChain() {
        CHECK.sentence("LOCK is in the chain of b or the view of b's parent is above LOCK's view: neither is so");
        int[] parents = {0, EARLY};
        for (int parent : parents) {
            ThreeChainLedger x = locked();
            CHECK.due("forge upon block " + parent, x.forge(parent, 8, 0), 6);
            got(x, 6, 1);
            CHECK.due("votes(6), b's parent being block " + parent, x.votes(6), 0);
            CHECK.dueState(x, 1, 8, 0, 2, 7, 0, UPON_LOCKED, LOCKED);
            CHECK.due("waiting()", x.waiting(), 0);
            // As VOTED stayed, another block of that view gets the vote.
            x.forge(LOCKED, 8, 0);
            got(x, 7, 1);
            CHECK.due("votes(7) of the same view", x.votes(7), 2);
        }
    }

    private static void theParentAboveTheLock() {
        CHECK.sentence("or the view of b's parent is above LOCK's view");
        ThreeChainLedger x = locked();
        CHECK.due("forge upon the block aside, one view above LOCK", x.forge(ASIDE, 8, 0), 6);
        got(x, 6, 1);
        CHECK.due("votes(6)", x.votes(6), 2);
        CHECK.dueState(x, 1, 8, 0, 2, 8, 0, UPON_LOCKED, LOCKED);
    }

    private static void votesOfAQuorum() {
        CHECK.sentence("if it has now got votes for b from 2f + 1 or more different replicas");
        for (int faults = 1; faults <= 2; faults++) {
            int n = 3 * faults + 1;
            ThreeChainLedger x = new ThreeChainLedger(faults, 0, 4);
            x.lead(0);
            x.flow(n);
            for (int got = 1; got <= n; got++) {
                x.deliver(0);
                boolean quorum = got >= 2 * faults + 1;
                CHECK.dueState(x, 0, quorum ? 2 : 1, 0, 2, 1, 1, quorum ? 1 : 0);
            }
        }
    }

    private static void votesOfDifferentReplicas() {
        CHECK.sentence("votes from different replicas");
        ThreeChainLedger x = new ThreeChainLedger(1, 2, 4);
        x.lead(0);
        x.deliver(2);
        for (int i = 0; i < 3; i++) {
            x.drop(0);
        }
        Scene.fill(x, 1, 1, 0, 4);
        x.flow(40);
        CHECK.due("state(0, 5) after five votes of two", x.state(0, 5), 0);
        x.offer(1, 3);
        x.flow(40);
        CHECK.due("state(0, 5) after a vote of a third one", x.state(0, 5), 1);
    }

    private static void votesForOneBlock() {
        CHECK.sentence("votes for b: those for other blocks do not count");
        // Votes for blocks of view 9 go to replica 1, which leads view 10.
        ThreeChainLedger x = Scene.withLiar();
        x.forge(0, 9, 0);
        x.forge(0, 9, 0);
        got(x, 1, 1);
        got(x, 2, 2);
        x.vote(0, 1, 1);
        x.vote(0, 2, 1);
        x.flow(40);
        CHECK.due("state(1, 5) after two votes for each of two blocks", x.state(1, 5), 0);
        got(x, 2, 3);
        x.flow(40);
        CHECK.due("state(1, 5) after a third one for the second", x.state(1, 5), 2);
    }

    private static void votesToOneReplica() {
        CHECK.sentence("by votes that it got: those that another one got do not count");
        ThreeChainLedger x = Scene.withLiar();
        x.forge(0, 9, 0);
        got(x, 1, 2);
        got(x, 1, 3);
        x.flow(40);
        for (int r = 0; r < 4; r++) {
            if (r != 1) {
                x.vote(0, 1, r);
            }
        }
        x.flow(40);
        CHECK.due("state(1, 5), the third vote having gone elsewhere", x.state(1, 5), 0);
        CHECK.due("state(2, 5)", x.state(2, 5), 0);
        x.vote(0, 1, 1);
        x.flow(40);
        CHECK.due("state(1, 5)", x.state(1, 5), 1);
        CHECK.due("state(2, 5)", x.state(2, 5), 0);
    }

    /** Replica 0 led view 1 and ticked so often; the votes of the others for block 1 come to it now. */
    private static ThreeChainLedger votedAfter(int ticks) {
        ThreeChainLedger x = new ThreeChainLedger(1, 0, 4);
        x.lead(0);
        x.drop(0);
        Scene.ticks(x, 0, ticks);
        x.drop(3);
        x.flow(40);
        return x;
    }

    private static void aCertificateOfVotesBehind() {
        CHECK.sentence("it sees the certificate of b (by votes), b's view being its own or below");
        CHECK.dueState(votedAfter(1), 0, 2, 0, 2, 0, 1, 1);
        CHECK.dueState(votedAfter(2), 0, 2, 0, 4, 0, 1, 1);
        CHECK.dueState(votedAfter(3), 0, 2, 1, 4, 0, 1, 1);
    }

    /** Replica 1 leads the views 5 to 8; the NEWVIEWs of 2 and 3 for view 5 wait, it is in that view, the timer 1. */
    private static ThreeChainLedger beforePush(int view) {
        ThreeChainLedger x = new ThreeChainLedger(1, 1, 4);
        x.forge(0, 3, 0);
        x.forge(0, 4, 0);
        for (int r = 2; r <= 3; r++) {
            got(x, 1, r);
            got(x, 2, r);
        }
        Scene.ticks(x, 2, 2);
        Scene.ticks(x, 3, 2);
        int patience = 2;
        for (int v = 1; v < view; v++) {
            Scene.ticks(x, 1, patience);
            patience = 2 * patience;
        }
        x.tick(1);
        // The votes go to the corrupt leader but for those of view 4; they and its own NEWVIEWs leave the row.
        for (int i = x.waiting() - 1; i >= 0; i--) {
            int message = x.message(i);
            if (message != 2 + 4 + 32 * 2 && message != 2 + 4 + 32 * 3) {
                x.drop(i);
            }
        }
        return x;
    }

    private static void pushAboveItsView() {
        CHECK.sentence("if PUSH (this NEWVIEW included) is above its view, it enters the view PUSH");
        for (int view = 1; view <= 4; view++) {
            ThreeChainLedger x = beforePush(view);
            CHECK.due("flow(40)", x.flow(40), 2);
            int patience = 1 << view;
            CHECK.dueState(x, 1, view, 1, patience, 0, 0, 0, 0, 0, 0);
            x.claim(0, 5, 0, 1);
            x.flow(40);
            CHECK.dueState(x, 1, 5, 0, patience, 0, 0, 0, 0, 0, 5);
        }
    }

    private static void pushIsItsView() {
        CHECK.sentence("if PUSH is above its view: it is its view");
        ThreeChainLedger x = beforePush(5);
        x.flow(40);
        x.claim(0, 5, 0, 1);
        x.flow(40);
        CHECK.dueState(x, 1, 5, 1, 32, 0, 0, 0, 0, 0, 5);
    }

    private static void pushBelowItsView() {
        CHECK.sentence("if PUSH is above its view: it is below");
        ThreeChainLedger x = beforePush(6);
        x.flow(40);
        x.claim(0, 7, 0, 1);
        x.flow(40);
        CHECK.dueState(x, 1, 6, 1, 32, 0, 0, 0, 0, 0, 5);
    }

    private static void aNewViewShowsItsBlockFirst() {
        CHECK.sentence("it sees the certificate of c. Then, if PUSH is above its view, it enters the view PUSH");
        // Block 1 is of view 3: seeing it leads to view 4 with the patience 2, and PUSH on to view 5.
        int[] patience = {0, 2, 2, 2, 16};
        for (int view = 1; view <= 4; view++) {
            ThreeChainLedger x = beforePush(view);
            x.flow(40);
            x.claim(0, 5, 1, 1);
            x.flow(40);
            CHECK.dueState(x, 1, 5, 0, patience[view], 0, 0, 1, 0, 0, 5);
        }
    }

    private static void aNewViewOfALaterBlockThanPush() {
        CHECK.sentence("it sees the certificate of c, which leads as far as PUSH or farther");
        // Block 2 is of view 4.
        ThreeChainLedger x = beforePush(2);
        x.flow(40);
        x.claim(0, 5, 2, 1);
        x.flow(40);
        CHECK.dueState(x, 1, 5, 0, 2, 0, 0, 2, 0, 0, 5);
        ThreeChainLedger y = beforePush(2);
        y.flow(40);
        y.claim(0, 2, 2, 1);
        y.flow(40);
        CHECK.dueState(y, 1, 5, 0, 2, 0, 0, 2, 0, 0, 2);
    }

    private static void aCorruptReplicaDoesNothing() {
        CHECK.sentence("A CORRUPT REPLICA does nothing with what it gets, and nothing by itself");
        ThreeChainLedger x = new ThreeChainLedger(2, 5, 4);
        x.forge(0, 1, 0);
        x.offer(1, 2);
        x.vote(0, 1, 2);
        x.claim(0, 9, 0, 2);
        CHECK.due("flow(40)", x.flow(40), 3);
        CHECK.due("votes(1)", x.votes(1), 0);
        CHECK.due("waiting()", x.waiting(), 0);
        for (int what = 0; what <= 8; what++) {
            CHECK.due("state(2, " + what + ")", x.state(2, what), -1);
        }
        CHECK.due("tick(2)", x.tick(2), -1);
        CHECK.due("lead(2)", x.lead(2), -1);
        // Votes for a block of view 12 go to replica 3; those of view 8 to replica 2, where they end.
        Scene.show(x, 0, 12, 0, 1, 3, 4, 5, 6);
        CHECK.due("state(3, 5), which got five votes", x.state(3, 5), 2);
        ThreeChainLedger y = new ThreeChainLedger(1, 2, 4);
        for (int i = 0; i < 4; i++) {
            Scene.round(y, 0);
        }
        CHECK.due("votes(4), which went to the corrupt leader of view 5", y.votes(4), 13);
        for (int r = 0; r < 4; r++) {
            CHECK.due("state(" + r + ", 5)", y.state(r, 5), r == 1 ? -1 : 3);
        }
    }

    private static void aReplicaSendsToItself() {
        CHECK.sentence("A replica sends to itself, too, by a message that waits");
        ThreeChainLedger x = new ThreeChainLedger(1, 0, 4);
        x.lead(0);
        CHECK.due("message(0), its own proposal", x.message(0), 256);
        CHECK.due("votes(1) before it is got", x.votes(1), 0);
        x.deliver(0);
        CHECK.due("votes(1)", x.votes(1), 1);
        CHECK.due("message(3), its own vote", x.message(3), 1 + 256);
        for (int i = 0; i < 3; i++) {
            x.drop(0);
        }
        Scene.ticks(x, 0, 2);
        CHECK.due("message(1), its own NEWVIEW", x.message(1), 2);
        CHECK.due("waiting()", x.waiting(), 2);
    }
}
