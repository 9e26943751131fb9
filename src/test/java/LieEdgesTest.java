import java.util.function.Supplier;

/** Promises 9 to 11: the edges of offer, vote and claim, and that a refused one changes nothing. */
public final class LieEdgesTest {
    private static final Check CHECK = new Check();

    public static void main(String[] args) {
        offerNeedsACorruptReplica();
        offerABlock();
        offerToAReplica();
        offerFindsRoom();
        voteOfACorruptReplica();
        voteForABlock();
        voteToAReplica();
        voteFindsRoom();
        claimOfACorruptReplica();
        claimAView();
        claimABlock();
        claimACertificate();
        claimToAReplica();
        claimFindsRoom();
        CHECK.end();
    }

    /** Seven replicas, 1 and 6 being corrupt; block 1 of view 1 has its certificate, block 2 of view 2 waits. */
    private static ThreeChainLedger seven() {
        ThreeChainLedger x = new ThreeChainLedger(2, 66, 4);
        Scene.round(x, 0);
        x.lead(0);
        return x;
    }

    /** Four replicas, 1 being corrupt, and the same blocks. */
    private static ThreeChainLedger four() {
        ThreeChainLedger x = new ThreeChainLedger(1, 2, 4);
        Scene.round(x, 0);
        x.lead(0);
        return x;
    }

    private static ThreeChainLedger fourHonest() {
        ThreeChainLedger x = new ThreeChainLedger(1, 0, 4);
        Scene.round(x, 0);
        x.lead(0);
        return x;
    }

    /** So many messages wait; 1 is corrupt, and block 1 is there. */
    private static ThreeChainLedger row(int count) {
        ThreeChainLedger x = new ThreeChainLedger(1, 2, 4);
        x.forge(0, 5, 0);
        // Five NEWVIEWs of three correct replicas, so that the last claims tell where PUSH stands.
        int newViews = count > 5 ? 5 : 0;
        if (newViews > 0) {
            Scene.ticks(x, 0, 2 + 4);
            Scene.ticks(x, 2, 2 + 4);
            Scene.ticks(x, 3, 2);
        }
        for (int i = newViews; i < count; i++) {
            x.claim(1, 2, 0, 0);
        }
        return x;
    }

    /** Block 2 has the votes of 0 and 2, which wait for replica 0; one vote more would show it the certificate. */
    private static ThreeChainLedger oneVoteShort() {
        ThreeChainLedger x = four();
        x.drop(3);
        x.flow(3);
        return x;
    }

    private static void dueSent(String call, ThreeChainLedger x, boolean answer, int message) {
        CHECK.due(call, answer, true);
        CHECK.due("the last message after " + call, x.message(x.waiting() - 1), message);
        CHECK.due("lost() after " + call, x.lost(), 0);
    }

    private static void offered(Supplier<ThreeChainLedger> scene, int b, int r) {
        ThreeChainLedger x = scene.get();
        int before = x.waiting();
        dueSent("offer(" + b + ", " + r + ")", x, x.offer(b, r), 4 * r + 256 * b);
        CHECK.due("waiting()", x.waiting(), before + 1);
    }

    private static void offerDenied(Supplier<ThreeChainLedger> scene, int b, int r) {
        CHECK.denied("offer(" + b + ", " + r + ")", scene, x -> x.offer(b, r));
    }

    private static void offerNeedsACorruptReplica() {
        CHECK.sentence("False, refused, if no replica is corrupt (offer)");
        for (int r = 0; r < 4; r++) {
            offerDenied(LieEdgesTest::fourHonest, 1, r);
            offered(LieEdgesTest::four, 1, r);
        }
        // One corrupt replica is enough, whichever it is.
        for (int s = 0; s < 7; s++) {
            ThreeChainLedger x = new ThreeChainLedger(2, 1 << s, 4);
            int b = s == 0 ? x.forge(0, 1, 0) : x.lead(0);
            CHECK.due("offer(1, 3), replica " + s + " being corrupt", x.offer(b, 3), true);
        }
        ThreeChainLedger y = new ThreeChainLedger(1, 16, 4);
        y.lead(0);
        CHECK.due("offer(1, 3), a bit being set that is no replica's", y.offer(1, 3), false);
    }

    private static void offerABlock() {
        CHECK.sentence("False, refused, if b is 0 or no block (offer)");
        int[] none = {0, -1, 3, 39, 40, Integer.MIN_VALUE, Integer.MAX_VALUE};
        for (int b : none) {
            offerDenied(LieEdgesTest::four, b, 2);
        }
        offered(LieEdgesTest::four, 1, 2);
        offered(LieEdgesTest::four, 2, 2);
        offerDenied(Scene::withLiar, 0, 2);
        offerDenied(Scene::withLiar, 1, 2);
    }

    private static void offerToAReplica() {
        CHECK.sentence("False, refused, if there is no replica r (offer)");
        int[] none = {-1, 4, 7, 8, Integer.MIN_VALUE, Integer.MAX_VALUE};
        for (int r : none) {
            offerDenied(LieEdgesTest::four, 1, r);
        }
        for (int r = 0; r < 4; r++) {
            offered(LieEdgesTest::four, 1, r);
        }
        offerDenied(LieEdgesTest::seven, 1, -1);
        offerDenied(LieEdgesTest::seven, 1, 7);
        offerDenied(LieEdgesTest::seven, 1, 8);
        for (int r = 0; r < 7; r++) {
            offered(LieEdgesTest::seven, 1, r);
        }
    }

    private static void offerFindsRoom() {
        CHECK.sentence("False, refused, if 40 messages wait (offer)");
        offered(() -> row(0), 1, 3);
        offered(() -> row(39), 1, 3);
        offerDenied(() -> row(40), 1, 3);
    }

    private static void voted(Supplier<ThreeChainLedger> scene, int s, int b, int r) {
        ThreeChainLedger x = scene.get();
        int before = x.waiting();
        dueSent("vote(" + s + ", " + b + ", " + r + ")", x, x.vote(s, b, r), 1 + 4 * r + 32 * s + 256 * b);
        CHECK.due("waiting()", x.waiting(), before + 1);
    }

    private static void voteDenied(Supplier<ThreeChainLedger> scene, int s, int b, int r) {
        CHECK.denied("vote(" + s + ", " + b + ", " + r + ")", scene, x -> x.vote(s, b, r));
    }

    private static void voteOfACorruptReplica() {
        CHECK.sentence("False, refused, if s is not a corrupt replica (vote)");
        for (int s = -1; s <= 8; s++) {
            if (s == 1 || s == 6) {
                voted(LieEdgesTest::seven, s, 1, 2);
            } else {
                voteDenied(LieEdgesTest::seven, s, 1, 2);
            }
        }
        voted(LieEdgesTest::four, 1, 1, 2);
        int[] none = {-31, 0, 2, 3, 4, 33, Integer.MIN_VALUE + 1, Integer.MIN_VALUE, Integer.MAX_VALUE};
        for (int s : none) {
            voteDenied(LieEdgesTest::four, s, 1, 2);
        }
        for (int s = 0; s < 4; s++) {
            voteDenied(LieEdgesTest::fourHonest, s, 1, 2);
        }
        voted(LieEdgesTest::oneVoteShort, 1, 2, 0);
        voteDenied(LieEdgesTest::oneVoteShort, 3, 2, 0);
    }

    private static void voteForABlock() {
        CHECK.sentence("False, refused, if b is 0 or no block (vote)");
        int[] none = {0, -1, 3, 39, 40, Integer.MIN_VALUE, Integer.MAX_VALUE};
        for (int b : none) {
            voteDenied(LieEdgesTest::four, 1, b, 2);
        }
        voted(LieEdgesTest::four, 1, 1, 2);
        voted(LieEdgesTest::four, 1, 2, 2);
        voteDenied(Scene::withLiar, 0, 0, 2);
        voteDenied(Scene::withLiar, 0, 1, 2);
    }

    private static void voteToAReplica() {
        CHECK.sentence("False, refused, if there is no replica r (vote)");
        int[] none = {-1, 4, 7, 8, Integer.MIN_VALUE, Integer.MAX_VALUE};
        for (int r : none) {
            voteDenied(LieEdgesTest::four, 1, 1, r);
        }
        for (int r = 0; r < 4; r++) {
            voted(LieEdgesTest::four, 1, 1, r);
        }
        voteDenied(LieEdgesTest::seven, 6, 1, -1);
        voteDenied(LieEdgesTest::seven, 6, 1, 7);
        voteDenied(LieEdgesTest::seven, 6, 1, 8);
        for (int r = 0; r < 7; r++) {
            voted(LieEdgesTest::seven, 6, 1, r);
        }
    }

    private static void voteFindsRoom() {
        CHECK.sentence("False, refused, if 40 messages wait (vote)");
        voted(() -> row(0), 1, 1, 3);
        voted(() -> row(39), 1, 1, 3);
        voteDenied(() -> row(40), 1, 1, 3);
    }

    private static void claimed(Supplier<ThreeChainLedger> scene, int s, int view, int c, int r) {
        ThreeChainLedger x = scene.get();
        int before = x.waiting();
        String call = "claim(" + s + ", " + view + ", " + c + ", " + r + ")";
        dueSent(call, x, x.claim(s, view, c, r), 2 + 4 * r + 32 * s + 256 * c);
        CHECK.due("waiting()", x.waiting(), before + 1);
    }

    private static void claimDenied(Supplier<ThreeChainLedger> scene, int s, int view, int c, int r) {
        String call = "claim(" + s + ", " + view + ", " + c + ", " + r + ")";
        CHECK.denied(call, scene, x -> x.claim(s, view, c, r));
    }

    private static void claimOfACorruptReplica() {
        CHECK.sentence("False, refused, if s is not a corrupt replica (claim)");
        for (int s = -1; s <= 8; s++) {
            if (s == 1 || s == 6) {
                claimed(LieEdgesTest::seven, s, 3, 1, 0);
            } else {
                claimDenied(LieEdgesTest::seven, s, 3, 1, 0);
            }
        }
        claimed(LieEdgesTest::four, 1, 3, 1, 0);
        int[] none = {-31, 0, 2, 3, 4, 33, Integer.MIN_VALUE + 1, Integer.MIN_VALUE, Integer.MAX_VALUE};
        for (int s : none) {
            claimDenied(LieEdgesTest::four, s, 3, 1, 0);
        }
        for (int s = 0; s < 4; s++) {
            claimDenied(LieEdgesTest::fourHonest, s, 3, 0, 0);
        }
    }

    private static void claimAView() {
        CHECK.sentence("False, refused, if the view is below 1 (claim)");
        int[] none = {0, -1, -2, Integer.MIN_VALUE};
        for (int view : none) {
            claimDenied(LieEdgesTest::four, 1, view, 1, 0);
        }
        int[] views = {1, 2, 9999, 10000, Integer.MAX_VALUE};
        for (int view : views) {
            claimed(LieEdgesTest::four, 1, view, 1, 0);
        }
    }

    private static void claimABlock() {
        CHECK.sentence("False, refused, if there is no block c (claim)");
        int[] none = {-1, 3, 39, 40, Integer.MIN_VALUE, Integer.MAX_VALUE};
        for (int c : none) {
            claimDenied(LieEdgesTest::four, 1, 3, c, 2);
        }
        claimed(LieEdgesTest::four, 1, 3, 0, 2);
        claimed(LieEdgesTest::four, 1, 3, 1, 2);
        claimed(Scene::withLiar, 0, 3, 0, 2);
        claimDenied(Scene::withLiar, 0, 3, 1, 2);
    }

    /** Block 1 of view 1 has so many votes of correct replicas. */
    private static ThreeChainLedger withVotes(int faults, int corrupt, int votes) {
        ThreeChainLedger x = new ThreeChainLedger(faults, corrupt, 9);
        x.forge(0, 1, 0);
        for (int i = 0; i < votes; i++) {
            x.offer(1, 3 * faults - i);
        }
        x.flow(40);
        return x;
    }

    private static void claimACertificate() {
        CHECK.sentence("False, refused, if there is no certificate of it: voters and corrupt ones are 2f + 1 or more");
        claimDenied(() -> withVotes(1, 1, 0), 0, 3, 1, 2);
        claimDenied(() -> withVotes(1, 1, 1), 0, 3, 1, 2);
        claimed(() -> withVotes(1, 1, 2), 0, 3, 1, 2);
        claimed(() -> withVotes(1, 1, 3), 0, 3, 1, 2);
        claimDenied(() -> withVotes(2, 1, 3), 0, 3, 1, 2);
        claimed(() -> withVotes(2, 1, 4), 0, 3, 1, 2);
        claimDenied(() -> withVotes(2, 3, 2), 1, 3, 1, 2);
        claimed(() -> withVotes(2, 3, 3), 1, 3, 1, 2);
        claimDenied(LieEdgesTest::four, 1, 3, 2, 2);
    }

    private static void claimToAReplica() {
        CHECK.sentence("False, refused, if there is no replica r (claim)");
        int[] none = {-1, 4, 7, 8, Integer.MIN_VALUE, Integer.MAX_VALUE};
        for (int r : none) {
            claimDenied(LieEdgesTest::four, 1, 3, 1, r);
        }
        for (int r = 0; r < 4; r++) {
            claimed(LieEdgesTest::four, 1, 3, 1, r);
        }
        claimDenied(LieEdgesTest::seven, 6, 3, 1, -1);
        claimDenied(LieEdgesTest::seven, 6, 3, 1, 7);
        claimDenied(LieEdgesTest::seven, 6, 3, 1, 8);
        for (int r = 0; r < 7; r++) {
            claimed(LieEdgesTest::seven, 6, 3, 1, r);
        }
    }

    private static void claimFindsRoom() {
        CHECK.sentence("False, refused, if 40 messages wait (claim)");
        claimed(() -> row(0), 1, 3, 0, 0);
        claimed(() -> row(39), 1, 3, 0, 0);
        claimDenied(() -> row(40), 1, 3, 0, 0);
    }
}
