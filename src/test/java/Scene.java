/** Steps that several tests take to bring an object into a state of interest. */
final class Scene {
    private Scene() {
    }

    /** Four replicas of which 0 is corrupt; it leads the views 1 to 9. */
    static ThreeChainLedger withLiar() {
        return new ThreeChainLedger(1, 1, 9);
    }

    /** The leader of this moment proposes, and all that is sent is delivered. */
    static int round(ThreeChainLedger x, int leader) {
        int b = x.lead(leader);
        x.flow(40);
        return b;
    }

    /** The liar makes a block and shows it to the given replicas; their votes are delivered, too. */
    static int show(ThreeChainLedger x, int parent, int view, int set, int... replicas) {
        int b = x.forge(parent, view, set);
        for (int r : replicas) {
            x.offer(b, r);
        }
        x.flow(40);
        return b;
    }

    /** The timer of replica r runs so often. */
    static void ticks(ThreeChainLedger x, int r, int times) {
        for (int i = 0; i < times; i++) {
            x.tick(r);
        }
    }

    /** The liar sends so many votes for block b to replica r, so that the row fills up. */
    static void fill(ThreeChainLedger x, int liar, int b, int r, int times) {
        for (int i = 0; i < times; i++) {
            x.vote(liar, b, r);
        }
    }
}
