/** Promise 21: lost. */
public final class LostTest {
    private static final Check CHECK = new Check();

    public static void main(String[] args) {
        ThreeChainLedger x = new ThreeChainLedger(2, 2, 4);
        x.forge(0, 5, 0);
        Scene.fill(x, 1, 1, 3, 35);
        CHECK.due("lost()", x.lost(), 0);
        x.lead(0);
        CHECK.due("lost() after two proposals without room", x.lost(), 2);
        Scene.ticks(x, 4, 2 + 4);
        CHECK.due("lost() after two NEWVIEWs more", x.lost(), 4);
        x.vote(1, 1, 3);
        x.offer(1, 3);
        x.claim(1, 1, 0, 3);
        CHECK.due("lost() after calls that are refused", x.lost(), 4);
        x.drop(0);
        CHECK.due("lost() after drop", x.lost(), 4);
        Scene.ticks(x, 2, 2);
        CHECK.due("lost() with room again", x.lost(), 4);
        Scene.ticks(x, 2, 4);
        CHECK.due("lost() without room again", x.lost(), 5);
        x.flow(40);
        x.flow(40);
        CHECK.due("lost() after flow", x.lost(), 5);
        CHECK.end();
    }
}
