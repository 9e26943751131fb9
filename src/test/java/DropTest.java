/** Promise 7: drop. */
public final class DropTest {
    private static final Check CHECK = new Check();

    public static void main(String[] args) {
        ThreeChainLedger x = new ThreeChainLedger(1, 0, 4);
        CHECK.due("drop(0) of an empty row", x.drop(0), false);
        x.lead(0);
        int[] refused = {-1, 4, 40, Integer.MIN_VALUE, Integer.MAX_VALUE};
        for (int i : refused) {
            CHECK.due("drop(" + i + ")", x.drop(i), false);
        }
        CHECK.due("waiting()", x.waiting(), 4);
        CHECK.due("drop(1)", x.drop(1), true);
        CHECK.due("drop(2)", x.drop(2), true);
        CHECK.due("waiting()", x.waiting(), 2);
        CHECK.due("message(0)", x.message(0), 256);
        CHECK.due("message(1)", x.message(1), 4 * 2 + 256);
        CHECK.due("message(2)", x.message(2), -1);
        CHECK.due("lost()", x.lost(), 0);
        CHECK.due("votes(1)", x.votes(1), 0);
        x.flow(40);
        CHECK.due("votes(1)", x.votes(1), 5);
        CHECK.due("state(1, 3), undelivered", x.state(1, 3), 0);
        aDroppedNewViewTakesItsViewAlong();
        aFullRowLosesItsLast();
        CHECK.end();
    }

    private static void aDroppedNewViewTakesItsViewAlong() {
        ThreeChainLedger x = Scene.withLiar();
        x.claim(0, 2, 0, 1);
        x.claim(0, 5, 0, 1);
        x.drop(0);
        Scene.ticks(x, 2, 2);
        Scene.ticks(x, 3, 2);
        x.drop(1);
        x.drop(1);
        x.flow(40);
        CHECK.due("state(1, 8)", x.state(1, 8), 0);
        ThreeChainLedger y = new ThreeChainLedger(2, 3, 4);
        // Replica 2 leads the views 9 to 12; three correct NEWVIEWs for 9 and two claims push it there.
        y.claim(0, 1, 0, 2);
        y.claim(0, 9, 0, 2);
        y.claim(1, 10, 0, 2);
        y.drop(0);
        for (int r = 3; r < 6; r++) {
            Scene.ticks(y, r, 2 + 4 + 8 + 16 + 4 * 32);
        }
        CHECK.due("state(5, 0)", y.state(5, 0), 9);
        y.flow(40);
        CHECK.due("state(2, 8)", y.state(2, 8), 9);
        CHECK.due("state(2, 0)", y.state(2, 0), 9);
    }

    private static void aFullRowLosesItsLast() {
        ThreeChainLedger x = Scene.withLiar();
        x.forge(0, 1, 0);
        Scene.fill(x, 0, 1, 1, 39);
        x.offer(1, 3);
        CHECK.due("waiting()", x.waiting(), 40);
        CHECK.due("drop(39)", x.drop(39), true);
        CHECK.due("drop(39) again", x.drop(39), false);
        CHECK.due("drop(0)", x.drop(0), true);
        CHECK.due("waiting()", x.waiting(), 38);
        CHECK.due("message(37)", x.message(37), 1 + 4 + 256);
    }
}
