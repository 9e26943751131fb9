import java.util.function.Supplier;

/** Promises 12 to 17 and 21: the edges of waiting, message, block, payload, votes, state and lost. */
public final class QueryEdgesTest {
    private static final Check CHECK = new Check();

    public static void main(String[] args) {
        waitingFromNoneToForty();
        messageAtAPlace();
        messageOfEachKind();
        blocksThatAreThere();
        blockZero();
        theGreatestViewAndParent();
        payloadsFromNothingToAll();
        votesOfCorrectReplicas();
        stateByWhat();
        stateOfACorrectReplica();
        lostFromFortyOn();
        askingChangesNothing();
        CHECK.end();
    }

    private static ThreeChainLedger row(int count) {
        ThreeChainLedger x = Scene.withLiar();
        x.forge(0, 1, 0);
        Scene.fill(x, 0, 1, 2, count);
        return x;
    }

    private static void waitingFromNoneToForty() {
        CHECK.sentence("How many messages wait: at most 40");
        for (int count = 0; count <= 40; count++) {
            CHECK.due("waiting() after " + count, row(count).waiting(), count);
        }
        ThreeChainLedger x = row(40);
        x.vote(0, 1, 2);
        CHECK.due("waiting() after a refused one", x.waiting(), 40);
        Scene.ticks(x, 1, 2);
        CHECK.due("waiting() after a lost one", x.waiting(), 40);
        x.drop(0);
        CHECK.due("waiting() after a dropped one", x.waiting(), 39);
        x.deliver(0);
        CHECK.due("waiting() after a delivered one", x.waiting(), 38);
    }

    private static void messageAtAPlace() {
        CHECK.sentence("message: -1 if there is no such place");
        int[] counts = {0, 1, 39, 40};
        for (int count : counts) {
            int[] none = {-1, count, count + 1, 41, Integer.MIN_VALUE, Integer.MAX_VALUE};
            for (int i : none) {
                CHECK.refused("message(" + i + ") when " + count + " wait", () -> row(count), x -> x.message(i));
            }
            for (int i = 0; i < count; i++) {
                CHECK.due("message(" + i + ") when " + count + " wait", row(count).message(i), 1 + 4 * 2 + 256);
            }
        }
        ThreeChainLedger x = row(40);
        x.flow(40);
        CHECK.due("message(0) when all are delivered", x.message(0), -1);
    }

    private static void messageOfEachKind() {
        CHECK.sentence("its kind + 4 * where to + 32 * where from (0 for a PROPOSAL) + 256 * its block");
        ThreeChainLedger x = new ThreeChainLedger(2, 66, 4);
        Scene.round(x, 0);
        x.lead(0);
        for (int r = 0; r < 7; r++) {
            x.drop(0);
        }
        int place = 0;
        int[] liars = {1, 6};
        for (int r = 0; r < 7; r++) {
            x.offer(2, r);
            CHECK.due("an offered PROPOSAL to " + r, x.message(place++), 4 * r + 512);
            for (int s : liars) {
                x.vote(s, 2, r);
                CHECK.due("a VOTE of " + s + " to " + r, x.message(place++), 1 + 4 * r + 32 * s + 512);
                x.claim(s, 9, 1, r);
                CHECK.due("a NEWVIEW of " + s + " to " + r, x.message(place++), 2 + 4 * r + 32 * s + 256);
            }
        }
        // A PROPOSAL comes from 0, whoever made the block and whoever sent it.
        ThreeChainLedger z = new ThreeChainLedger(2, 8, 4);
        z.forge(0, 13, 0);
        z.offer(1, 6);
        CHECK.due("a PROPOSAL of the corrupt replica 3", z.message(0), 4 * 6 + 256);
        z.drop(0);
        for (int view = 1; view <= 4; view++) {
            Scene.round(z, 0);
        }
        z.lead(1);
        CHECK.due("a PROPOSAL of replica 1", z.message(6), 4 * 6 + 256 * 6);
        z.offer(6, 5);
        CHECK.due("the same, offered once more", z.message(7), 4 * 5 + 256 * 6);
        ThreeChainLedger y = new ThreeChainLedger(2, 0, 4);
        y.lead(0);
        y.flow(7);
        for (int r = 0; r < 7; r++) {
            CHECK.due("a correct VOTE of " + r, y.message(r), 1 + 32 * r + 256);
        }
        y.flow(7);
        for (int r = 0; r < 7; r++) {
            Scene.ticks(y, r, 2);
            // Only replica 0 saw the certificate of block 1.
            CHECK.due("a correct NEWVIEW of " + r, y.message(r), 2 + 32 * r + (r == 0 ? 256 : 0));
        }
    }

    private static ThreeChainLedger withBlocks(int count) {
        ThreeChainLedger x = Scene.withLiar();
        x.submit(0, 0, 1, 1);
        for (int b = 1; b < count; b++) {
            x.forge(0, b % 9 + 1, b % 2);
        }
        return x;
    }

    private static void blocksThatAreThere() {
        CHECK.sentence("block, payload, votes: -1 if there is no such block");
        int[] counts = {1, 2, 39, 40};
        for (int count : counts) {
            Supplier<ThreeChainLedger> scene = () -> withBlocks(count);
            int[] none = {-1, count, count + 1, 40, 41, Integer.MIN_VALUE, Integer.MAX_VALUE};
            for (int b : none) {
                CHECK.refused("block(" + b + ") of " + count, scene, x -> x.block(b));
                CHECK.refused("payload(" + b + ") of " + count, scene, x -> x.payload(b));
                CHECK.refused("votes(" + b + ") of " + count, scene, x -> x.votes(b));
            }
            ThreeChainLedger x = scene.get();
            for (int b = 1; b < count; b++) {
                CHECK.due("block(" + b + ") of " + count, x.block(b), 64 * (b % 9 + 1));
                CHECK.due("payload(" + b + ") of " + count, x.payload(b), b % 2);
                CHECK.due("votes(" + b + ") of " + count, x.votes(b), 0);
            }
        }
    }

    private static void blockZero() {
        CHECK.sentence("Block 0 has view 0, no parent (0 for block 0) and no transfers");
        int[] counts = {1, 40};
        for (int count : counts) {
            ThreeChainLedger x = withBlocks(count);
            CHECK.due("block(0)", x.block(0), 0);
            CHECK.due("payload(0)", x.payload(0), 0);
            CHECK.due("votes(0)", x.votes(0), 0);
        }
    }

    private static void theGreatestViewAndParent() {
        CHECK.sentence("64 * the view of block b + the number of its parent");
        // Replica 3 is corrupt and leads view 9999; the correct replica 0 leads view 10001.
        ThreeChainLedger x = new ThreeChainLedger(1, 8, 4);
        for (int b = 1; b < 38; b++) {
            x.forge(0, 13, 0);
        }
        x.offer(37, 0);
        x.offer(37, 1);
        x.offer(37, 2);
        x.flow(40);
        CHECK.due("forge(37, 9999, 0)", x.forge(37, 9999, 0), 38);
        CHECK.due("block(38)", x.block(38), 64 * 9999 + 37);
        // The certificate of block 38 takes replica 0 to view 10000, its timer to 10001, where it is pushed on to lead.
        for (int r = 0; r < 3; r++) {
            x.offer(38, r);
        }
        x.flow(40);
        for (int r = 0; r < 3; r++) {
            x.claim(3, 1, 38, r);
        }
        x.flow(40);
        CHECK.due("state(0, 0)", x.state(0, 0), 10000);
        for (int r = 0; r < 3; r++) {
            Scene.ticks(x, r, 2);
        }
        x.flow(40);
        CHECK.due("state(0, 8)", x.state(0, 8), 10001);
        CHECK.due("lead(0) above view 9999", x.lead(0), 39);
        CHECK.due("block(39)", x.block(39), 64 * 10001 + 38);
    }

    private static void payloadsFromNothingToAll() {
        CHECK.sentence("The set of transfers of block b: bit i set for each member i");
        ThreeChainLedger x = Scene.withLiar();
        for (int t = 0; t < 24; t++) {
            x.submit(0, 0, 1, 1);
        }
        int[] sets = {0, 1, 2, 3, 1 << 22, 1 << 23, 0xFFFFFE, 0xFFFFFF};
        for (int i = 0; i < sets.length; i++) {
            x.forge(0, 1, sets[i]);
            CHECK.due("payload(" + (i + 1) + ")", x.payload(i + 1), sets[i]);
        }
    }

    private static void votesOfCorrectReplicas() {
        CHECK.sentence("The set of the correct replicas that have voted for block b (Corrupt ones are never in it.)");
        int[] corrupts = {0, 2, 64, 66};
        for (int corrupt : corrupts) {
            ThreeChainLedger x = new ThreeChainLedger(2, corrupt, 4);
            x.lead(0);
            int voters = 0;
            for (int r = 0; r < 7; r++) {
                x.deliver(0);
                voters |= 1 << r & ~corrupt;
                CHECK.due("votes(1) after the proposal to " + r, x.votes(1), voters);
            }
            for (int s = 0; s < 7; s++) {
                x.vote(s, 1, 0);
            }
            x.flow(40);
            CHECK.due("votes(1) after the corrupt ones' votes", x.votes(1), 127 & ~corrupt);
        }
        // It has voted from when it got the proposal, whether its VOTE comes to anybody or not.
        ThreeChainLedger y = new ThreeChainLedger(1, 0, 4);
        y.lead(0);
        y.deliver(3);
        y.drop(3);
        CHECK.due("votes(1), the VOTE being dropped", y.votes(1), 8);
    }

    /** Each what has an answer of its own for replica 0 here; replica 3 is corrupt. */
    private static ThreeChainLedger nine() {
        ThreeChainLedger x = new ThreeChainLedger(1, 8, 9);
        // Ten blocks aside, so that the numbers of the others are not their views.
        for (int b = 1; b <= 10; b++) {
            x.forge(0, 28, 0);
        }
        for (int r = 0; r < 3; r++) {
            Scene.ticks(x, r, 2);
        }
        x.claim(3, 2, 0, 0);
        x.flow(40);
        for (int i = 0; i < 3; i++) {
            Scene.round(x, 0);
        }
        x.lead(0);
        for (int r = 0; r < 4; r++) {
            x.drop(0);
        }
        Scene.ticks(x, 0, 2 + 4 + 1);
        x.flow(40);
        return x;
    }

    private static void stateByWhat() {
        CHECK.sentence("state: -1 if what is not 0 .. 8");
        // View 7, timer 1, patience 8, VOTED 4, PROPOSED 5, HIGH 13, LOCK 12, TIP 11, PUSH 2.
        CHECK.dueState(nine(), 0, 7, 1, 8, 4, 5, 13, 12, 11, 2);
        int[] none = {-1, 9, 10, Integer.MIN_VALUE, Integer.MAX_VALUE};
        for (int what : none) {
            CHECK.refused("state(0, " + what + ")", QueryEdgesTest::nine, x -> x.state(0, what));
        }
    }

    private static void stateOfACorrectReplica() {
        CHECK.sentence("state: -1 if r is not a correct replica");
        int[] none = {-1, 3, 4, 7, 32, Integer.MIN_VALUE, Integer.MAX_VALUE};
        for (int r : none) {
            for (int each = 0; each <= 8; each++) {
                int what = each;
                CHECK.refused("state(" + r + ", " + what + ")", QueryEdgesTest::nine, x -> x.state(r, what));
            }
        }
        for (int r = 0; r < 3; r++) {
            CHECK.due("state(" + r + ", 4)", nine().state(r, 4), r == 0 ? 5 : 0);
        }
        CHECK.due("state(6, 0) of seven", new ThreeChainLedger(2, 3, 4).state(6, 0), 1);
        CHECK.due("state(7, 0) of seven", new ThreeChainLedger(2, 3, 4).state(7, 0), -1);
        CHECK.due("state(1, 0) of seven, corrupt", new ThreeChainLedger(2, 3, 4).state(1, 0), -1);
    }

    private static void lostFromFortyOn() {
        CHECK.sentence("How many messages were lost: when 40 wait, what is sent is LOST");
        int[] counts = {0, 38, 39, 40};
        int[] lost = {0, 0, 1, 2};
        for (int i = 0; i < counts.length; i++) {
            ThreeChainLedger x = row(counts[i]);
            Scene.ticks(x, 1, 2);
            Scene.ticks(x, 2, 2);
            CHECK.due("lost() when " + counts[i] + " waited", x.lost(), lost[i]);
        }
        ThreeChainLedger x = row(40);
        x.offer(1, 1);
        x.vote(0, 1, 1);
        x.claim(0, 1, 0, 1);
        CHECK.due("lost() after refused ones", x.lost(), 0);
        Scene.ticks(x, 1, 2);
        CHECK.due("lost() after a NEWVIEW", x.lost(), 1);
        Scene.ticks(x, 1, 4);
        CHECK.due("lost() after another one", x.lost(), 2);
        x.drop(0);
        x.flow(40);
        CHECK.due("lost() after the row is empty", x.lost(), 2);
    }

    private static void askingChangesNothing() {
        CHECK.sentence("waiting, message, .. lost: they answer, and nothing is said to change");
        CHECK.unchanged("waiting()", QueryEdgesTest::nine, ThreeChainLedger::waiting);
        CHECK.unchanged("message(0)", () -> row(40), x -> x.message(0));
        CHECK.unchanged("block(12)", QueryEdgesTest::nine, x -> x.block(12));
        CHECK.unchanged("payload(12)", QueryEdgesTest::nine, x -> x.payload(12));
        CHECK.unchanged("votes(12)", QueryEdgesTest::nine, x -> x.votes(12));
        for (int each = 0; each <= 8; each++) {
            int what = each;
            CHECK.unchanged("state(0, " + what + ")", QueryEdgesTest::nine, x -> x.state(0, what));
        }
        CHECK.unchanged("committed(0, 1)", QueryEdgesTest::nine, x -> x.committed(0, 1));
        CHECK.unchanged("balance(0, 1)", QueryEdgesTest::nine, x -> x.balance(0, 1));
        CHECK.unchanged("outcome(1, 0)", () -> withBlocks(3), x -> x.outcome(1, 0));
        CHECK.unchanged("lost()", QueryEdgesTest::nine, ThreeChainLedger::lost);
    }
}
