/** Terms: the edges of what a replica knows: HIGH, LOCK, TIP and PUSH, and what it does when it sees a certificate. */
public final class KnowledgeEdgesTest {
    private static final Check CHECK = new Check();
    private static final int HIGH = 5;
    private static final int LOCK = 6;
    private static final int TIP = 7;
    private static final int PUSH = 8;

    public static void main(String[] args) {
        highIsOfTheGreatestView();
        lockIsOfTheGreatestView();
        lockIsBlockZeroAtFirst();
        tipNeedsBothSteps();
        tipNeedsTheCertificateOfTheLast();
        tipIsOfTheGreatestView();
        tipIsNotBelowBlockZero();
        pushNeedsAQuorum();
        pushCountsDifferentReplicas();
        pushIsTheGreatestSuchView();
        pushTakesTheGreatestOfEach();
        seesACertificateBelow();
        seesACertificateOfItsOwnView();
        seesACertificateAbove();
        CHECK.end();
    }

    /** The liar shows replica 3 the certificate of block c by a NEWVIEW. */
    private static void seen(ThreeChainLedger x, int c) {
        x.claim(0, 1, c, 3);
        x.flow(40);
    }

    /** Blocks of these views, each upon the one before, with the votes of 1 and 2; replica 3 knows of none. */
    private static ThreeChainLedger chain(int... views) {
        ThreeChainLedger x = Scene.withLiar();
        for (int i = 0; i < views.length; i++) {
            Scene.show(x, i, views[i], 0, 1, 2);
        }
        return x;
    }

    private static void highIsOfTheGreatestView() {
        CHECK.sentence("HIGH is the block with the greatest view among those whose certificates it saw");
        ThreeChainLedger x = chain(2, 3, 5);
        CHECK.due("HIGH at first", x.state(3, HIGH), 0);
        seen(x, 0);
        CHECK.due("HIGH after block 0", x.state(3, HIGH), 0);
        seen(x, 2);
        CHECK.due("HIGH after view 3", x.state(3, HIGH), 2);
        seen(x, 1);
        CHECK.due("HIGH after view 2", x.state(3, HIGH), 2);
        seen(x, 3);
        CHECK.due("HIGH after view 5", x.state(3, HIGH), 3);
        seen(x, 0);
        CHECK.due("HIGH after block 0 once more", x.state(3, HIGH), 3);
        // The number does not tell the view: block 2 is of view 4 here, and block 1 of view 8.
        ThreeChainLedger y = Scene.withLiar();
        y.forge(0, 8, 0);
        Scene.show(y, 0, 4, 0, 1, 2);
        y.offer(1, 1);
        y.offer(1, 2);
        y.flow(40);
        seen(y, 1);
        seen(y, 2);
        CHECK.due("HIGH, the older block being of the greater view", y.state(3, HIGH), 1);
    }

    private static void lockIsOfTheGreatestView() {
        CHECK.sentence("LOCK is the block with the greatest view among block 0 and the parents of those");
        ThreeChainLedger x = chain(2, 3, 5);
        seen(x, 2);
        CHECK.due("LOCK after view 3 upon view 2", x.state(3, LOCK), 1);
        seen(x, 3);
        CHECK.due("LOCK after view 5 upon view 3", x.state(3, LOCK), 2);
        seen(x, 2);
        seen(x, 1);
        CHECK.due("LOCK after the older ones once more", x.state(3, LOCK), 2);
        // A later certificate upon an earlier parent does not take the lock back.
        ThreeChainLedger y = Scene.withLiar();
        Scene.show(y, 0, 1, 0, 1, 2);
        Scene.show(y, 0, 2, 0, 1, 2);
        Scene.show(y, 2, 3, 0, 1, 2);
        Scene.show(y, 1, 4, 0, 1, 2);
        seen(y, 3);
        CHECK.due("LOCK after view 3 upon view 2", y.state(3, LOCK), 2);
        seen(y, 4);
        CHECK.due("HIGH after view 4 upon view 1", y.state(3, HIGH), 4);
        CHECK.due("LOCK after view 4 upon view 1", y.state(3, LOCK), 2);
    }

    private static void lockIsBlockZeroAtFirst() {
        CHECK.sentence("LOCK is among block 0 and the parents of those");
        ThreeChainLedger x = chain(2, 3);
        CHECK.due("LOCK at first", x.state(3, LOCK), 0);
        seen(x, 0);
        CHECK.due("LOCK after block 0", x.state(3, LOCK), 0);
        seen(x, 1);
        CHECK.due("LOCK after a block upon block 0", x.state(3, LOCK), 0);
        seen(x, 2);
        CHECK.due("LOCK after a block upon that", x.state(3, LOCK), 1);
    }

    private static void tipNeedsBothSteps() {
        CHECK.sentence("a is the parent of a b whose view is one more, and b of a c whose view is again one more");
        int[][] views = {{1, 2, 3}, {4, 5, 6}, {7, 8, 9}, {1, 2, 4}, {1, 3, 4}, {1, 3, 5}, {1, 2, 9}, {1, 8, 9}};
        int[] tips = {1, 1, 1, 0, 0, 0, 0, 0};
        for (int i = 0; i < views.length; i++) {
            ThreeChainLedger x = chain(views[i]);
            seen(x, 3);
            String where = " of the views " + views[i][0] + ", " + views[i][1] + ", " + views[i][2];
            CHECK.due("HIGH" + where, x.state(3, HIGH), 3);
            CHECK.due("TIP" + where, x.state(3, TIP), tips[i]);
        }
        // Three successive views do not do if the blocks are not upon one another.
        ThreeChainLedger y = Scene.withLiar();
        Scene.show(y, 0, 1, 0, 1, 2);
        Scene.show(y, 0, 2, 0, 1, 2);
        Scene.show(y, 2, 3, 0, 1, 2);
        seen(y, 1);
        seen(y, 2);
        seen(y, 3);
        CHECK.due("TIP of 3 upon 2 upon block 0, 1 aside", y.state(3, TIP), 0);
    }

    private static void tipNeedsTheCertificateOfTheLast() {
        CHECK.sentence("TIP: the certificate of c being one that it saw");
        ThreeChainLedger x = chain(1, 2, 3, 5);
        seen(x, 1);
        seen(x, 2);
        CHECK.due("TIP after the certificates of a and b", x.state(3, TIP), 0);
        seen(x, 4);
        CHECK.due("TIP after the certificate of a block upon c", x.state(3, TIP), 0);
        seen(x, 3);
        CHECK.due("TIP after the certificate of c", x.state(3, TIP), 1);
        // The certificates of a and b need not be among those that it saw.
        ThreeChainLedger y = chain(1, 2, 3);
        seen(y, 3);
        CHECK.due("TIP after the certificate of c alone", y.state(3, TIP), 1);
    }

    private static void tipIsOfTheGreatestView() {
        CHECK.sentence("TIP is the block with the greatest view among block 0 and all blocks a");
        ThreeChainLedger x = chain(1, 2, 3, 4, 5, 7, 8, 9);
        seen(x, 4);
        CHECK.due("TIP after view 4", x.state(3, TIP), 2);
        seen(x, 3);
        CHECK.due("TIP after view 3", x.state(3, TIP), 2);
        seen(x, 5);
        CHECK.due("TIP after view 5", x.state(3, TIP), 3);
        seen(x, 7);
        CHECK.due("TIP after view 8 upon 7 upon 5", x.state(3, TIP), 3);
        seen(x, 8);
        CHECK.due("TIP after view 9 upon 8 upon 7", x.state(3, TIP), 6);
        seen(x, 5);
        CHECK.due("TIP after view 5 once more", x.state(3, TIP), 6);
    }

    private static void tipIsNotBelowBlockZero() {
        CHECK.sentence("TIP is among block 0 and all blocks a (block 0 has no parent)");
        ThreeChainLedger x = chain(1, 2);
        seen(x, 0);
        CHECK.due("TIP after block 0", x.state(3, TIP), 0);
        seen(x, 1);
        CHECK.due("TIP after view 1", x.state(3, TIP), 0);
        seen(x, 2);
        CHECK.due("TIP after view 2", x.state(3, TIP), 0);
    }

    /** The replicas from first on, so many, went on to view 2, and their NEWVIEWs are got by replica 0. */
    private static ThreeChainLedger pushing(int faults, int first, int count) {
        ThreeChainLedger x = new ThreeChainLedger(faults, 0, 4);
        for (int r = first; r < first + count; r++) {
            Scene.ticks(x, r, 2);
        }
        x.flow(40);
        return x;
    }

    private static void pushNeedsAQuorum() {
        CHECK.sentence("PUSH: from 2f + 1 different replicas, 0 if there is none");
        CHECK.due("PUSH of 0 NEWVIEWs", pushing(1, 1, 0).state(0, PUSH), 0);
        CHECK.due("PUSH of 2 of 4", pushing(1, 1, 2).state(0, PUSH), 0);
        CHECK.due("PUSH of 3 of 4", pushing(1, 1, 3).state(0, PUSH), 2);
        CHECK.due("PUSH of 4 of 4", pushing(1, 0, 4).state(0, PUSH), 2);
        CHECK.due("PUSH of 4 of 7", pushing(2, 1, 4).state(0, PUSH), 0);
        CHECK.due("PUSH of 5 of 7", pushing(2, 1, 5).state(0, PUSH), 2);
        CHECK.due("PUSH of 6 of 7", pushing(2, 1, 6).state(0, PUSH), 2);
        CHECK.due("PUSH of 7 of 7", pushing(2, 0, 7).state(0, PUSH), 2);
        CHECK.due("PUSH of another one, which got none", pushing(1, 1, 3).state(1, PUSH), 0);
        CHECK.due("PUSH with its own NEWVIEW", pushing(1, 0, 3).state(0, PUSH), 2);
    }

    private static void pushCountsDifferentReplicas() {
        CHECK.sentence("PUSH: from different replicas");
        ThreeChainLedger x = new ThreeChainLedger(1, 2, 4);
        Scene.ticks(x, 2, 2);
        for (int view = 2; view < 6; view++) {
            x.claim(1, view, 0, 0);
        }
        x.flow(40);
        CHECK.due("PUSH of five NEWVIEWs from two", x.state(0, PUSH), 0);
        Scene.ticks(x, 2, 4);
        x.flow(40);
        CHECK.due("PUSH of six NEWVIEWs from two", x.state(0, PUSH), 0);
        Scene.ticks(x, 3, 2);
        x.flow(40);
        CHECK.due("PUSH of seven NEWVIEWs from three", x.state(0, PUSH), 2);
    }

    private static void pushIsTheGreatestSuchView() {
        CHECK.sentence("PUSH is the greatest view v such that it got NEWVIEWs for v or greater views");
        int[][] views = {{2, 2, 2}, {2, 3, 4}, {4, 3, 2}, {3, 3, 4}, {3, 3, 2}, {4, 2, 4}, {4, 4, 4}};
        int[] pushes = {2, 2, 2, 3, 2, 2, 4};
        int[] ticks = {0, 0, 2, 2 + 4, 2 + 4 + 8};
        for (int i = 0; i < views.length; i++) {
            ThreeChainLedger x = new ThreeChainLedger(1, 0, 4);
            for (int r = 1; r < 4; r++) {
                Scene.ticks(x, r, ticks[views[i][r - 1]]);
            }
            x.flow(40);
            String where = " of " + views[i][0] + ", " + views[i][1] + ", " + views[i][2];
            CHECK.due("PUSH" + where, x.state(0, PUSH), pushes[i]);
        }
        // Several views can have 2f + 1, wherever the greatest of them stands: of four the third greatest one counts.
        int[][] four = {
            {2, 3, 3, 4}, {4, 3, 3, 2}, {3, 2, 4, 3}, {3, 3, 3, 2}, {2, 3, 3, 3}, {2, 2, 4, 4}, {4, 4, 2, 4},
        };
        int[] third = {3, 3, 3, 3, 3, 2, 4};
        for (int i = 0; i < four.length; i++) {
            ThreeChainLedger x = new ThreeChainLedger(1, 0, 4);
            for (int r = 0; r < 4; r++) {
                Scene.ticks(x, r, ticks[four[i][r]]);
            }
            x.flow(40);
            CHECK.due("PUSH of four, the ones at " + i, x.state(0, PUSH), third[i]);
        }
        // Of seven the fifth greatest one.
        int[][] seven = {{2, 3, 3, 4, 4, 4}, {4, 4, 4, 3, 3, 2}};
        for (int i = 0; i < seven.length; i++) {
            ThreeChainLedger y = new ThreeChainLedger(2, 0, 4);
            for (int r = 1; r < 7; r++) {
                Scene.ticks(y, r, ticks[seven[i][r - 1]]);
            }
            y.flow(40);
            CHECK.due("PUSH of 2, 3, 3, 4, 4, 4, run " + i, y.state(0, PUSH), 3);
        }
        // A view that nobody named can not be the greatest one: of 2, 2 and the last of all it is 2.
        ThreeChainLedger z = new ThreeChainLedger(1, 2, 4);
        Scene.ticks(z, 2, 2);
        Scene.ticks(z, 3, 2);
        z.claim(1, Integer.MAX_VALUE, 0, 0);
        z.flow(40);
        CHECK.due("PUSH of 2, 2 and the last number", z.state(0, PUSH), 2);
        CHECK.due("state(0, 0)", z.state(0, 0), 2);
    }

    private static void pushTakesTheGreatestOfEach() {
        CHECK.sentence("of each replica the greatest view of the NEWVIEWs that it got from it");
        int[][] claims = {{1, 3}, {3, 1}, {3, 3}, {2, 3}, {3, 2}, {1, 2}, {2, 1}, {1, 1}};
        int[] pushes = {3, 3, 3, 3, 3, 2, 2, 1};
        for (int i = 0; i < claims.length; i++) {
            ThreeChainLedger x = new ThreeChainLedger(1, 2, 4);
            Scene.ticks(x, 2, 2 + 4);
            Scene.ticks(x, 3, 2 + 4);
            x.claim(1, claims[i][0], 0, 0);
            x.claim(1, claims[i][1], 0, 0);
            x.flow(40);
            String where = " with claims of " + claims[i][0] + " and " + claims[i][1];
            CHECK.due("PUSH" + where, x.state(0, PUSH), pushes[i]);
        }
    }

    /** Block 1 of view 3 has its certificate; replica 3 is in that view, with the timer 1. */
    private static ThreeChainLedger inView(int view) {
        ThreeChainLedger x = chain(3);
        int patience = 2;
        for (int v = 1; v < view; v++) {
            Scene.ticks(x, 3, patience);
            patience = 2 * patience;
        }
        x.tick(3);
        x.flow(40);
        return x;
    }

    private static void seesACertificateBelow() {
        CHECK.sentence("if c's view is not below its own view: it is one below");
        ThreeChainLedger x = inView(4);
        CHECK.dueState(x, 3, 4, 1, 16, 0, 0, 0);
        seen(x, 1);
        CHECK.dueState(x, 3, 4, 1, 16, 0, 0, 1);
    }

    private static void seesACertificateOfItsOwnView() {
        CHECK.sentence("if c's view is not below its own view: it is its own");
        ThreeChainLedger x = inView(3);
        CHECK.dueState(x, 3, 3, 1, 8, 0, 0, 0);
        seen(x, 1);
        CHECK.dueState(x, 3, 4, 0, 2, 0, 0, 1);
    }

    private static void seesACertificateAbove() {
        CHECK.sentence("it enters the view after c's view, and its patience becomes 2");
        for (int view = 1; view <= 2; view++) {
            ThreeChainLedger x = inView(view);
            CHECK.dueState(x, 3, view, 1, 2 * view, 0, 0, 0);
            seen(x, 1);
            CHECK.dueState(x, 3, 4, 0, 2, 0, 0, 1);
        }
        // Seeing it once more changes nothing: it is below the view now.
        ThreeChainLedger y = inView(3);
        seen(y, 1);
        Scene.ticks(y, 3, 1);
        seen(y, 1);
        CHECK.dueState(y, 3, 4, 1, 2, 0, 0, 1);
    }
}
