import java.util.function.Supplier;

/** Promises 5 to 7: the edges of deliver, flow and drop, and that a refused one changes nothing. */
public final class RowEdgesTest {
    private static final Check CHECK = new Check();

    public static void main(String[] args) {
        deliverAPlace();
        deliverTakesTheMessageAtThePlace();
        deliverLeavesFirst();
        deliverTellsWhoGotIt();
        flowTimes();
        flowUntilNoneWaits();
        flowTakesTheOldest();
        flowCountsWhatItCauses();
        dropAPlace();
        dropTakesTheMessageAtThePlace();
        dropIsNotLost();
        dropIsUndelivered();
        CHECK.end();
    }

    /** The liar's votes for block 1 wait, so many; the last goes to replica 3, the others to 2. */
    private static ThreeChainLedger row(int count) {
        ThreeChainLedger x = Scene.withLiar();
        x.forge(0, 1, 0);
        Scene.fill(x, 0, 1, 2, count - 1);
        if (count > 0) {
            x.vote(0, 1, 3);
        }
        return x;
    }

    private static void deliverAPlace() {
        CHECK.sentence("-1, refused, if there is no such place (deliver)");
        int[] counts = {0, 1, 2, 39, 40};
        for (int count : counts) {
            Supplier<ThreeChainLedger> scene = () -> row(count);
            int[] none = {-1, count, count + 1, 41, Integer.MIN_VALUE, Integer.MAX_VALUE};
            for (int i : none) {
                CHECK.refused("deliver(" + i + ") when " + count + " wait", scene, x -> x.deliver(i));
            }
            if (count > 0) {
                CHECK.due("deliver(0) when " + count + " wait", row(count).deliver(0), 1);
                ThreeChainLedger x = row(count);
                CHECK.due("deliver of the last when " + count + " wait", x.deliver(count - 1), 1);
                CHECK.due("waiting() after it", x.waiting(), count - 1);
                CHECK.due("deliver of the last once more", x.deliver(count - 1), -1);
            }
        }
    }

    /** Four proposals of block 1 and a NEWVIEW wait. */
    private static ThreeChainLedger five() {
        ThreeChainLedger x = new ThreeChainLedger(1, 2, 4);
        x.lead(0);
        x.claim(1, 3, 0, 2);
        return x;
    }

    private static final int[] FIVE = {256, 256 + 4, 256 + 8, 256 + 12, 2 + 4 * 2 + 32};

    private static void dueRowWithout(ThreeChainLedger x, int gone) {
        for (int i = 0; i < 4; i++) {
            CHECK.due("message(" + i + ") without that of place " + gone, x.message(i), FIVE[i < gone ? i : i + 1]);
        }
    }

    private static void deliverTakesTheMessageAtThePlace() {
        CHECK.sentence("Delivers the message at place i of the row (0 is the oldest): it leaves the row");
        int[] voters = {1, 0, 4, 8, 0};
        for (int i = 0; i < 5; i++) {
            ThreeChainLedger x = five();
            x.deliver(i);
            dueRowWithout(x, i);
            CHECK.due("votes(1) after deliver(" + i + ")", x.votes(1), voters[i]);
            CHECK.due("waiting() after deliver(" + i + ")", x.waiting(), voters[i] == 0 ? 4 : 5);
        }
    }

    /** A full row with a proposal of block 1 to replica 3 in it, at that place. */
    private static ThreeChainLedger fullWithProposal(int place) {
        ThreeChainLedger x = Scene.withLiar();
        x.forge(0, 1, 0);
        Scene.fill(x, 0, 1, 2, place);
        x.offer(1, 3);
        Scene.fill(x, 0, 1, 2, 39 - place);
        return x;
    }

    private static void deliverLeavesFirst() {
        CHECK.sentence("it leaves the row, then its replica gets it");
        int[] places = {0, 1, 20, 38, 39};
        for (int place : places) {
            ThreeChainLedger x = fullWithProposal(place);
            CHECK.due("waiting()", x.waiting(), 40);
            CHECK.due("deliver(" + place + ") of a full row", x.deliver(place), 1);
            CHECK.due("waiting() with the vote", x.waiting(), 40);
            CHECK.due("message(39), the vote", x.message(39), 1 + 32 * 3 + 256);
            CHECK.due("message(38)", x.message(38), 1 + 4 * 2 + 256);
            CHECK.due("lost()", x.lost(), 0);
        }
        ThreeChainLedger y = fullWithProposal(0);
        CHECK.due("flow(1) of a full row", y.flow(1), 1);
        CHECK.due("message(39), the vote", y.message(39), 1 + 32 * 3 + 256);
        CHECK.due("lost()", y.lost(), 0);
    }

    private static void deliverTellsWhoGotIt() {
        CHECK.sentence("1 if that replica is correct, 0 if it is corrupt");
        int[] first = {1, 0, 1, 1};
        for (int i = 0; i < 4; i++) {
            CHECK.due("deliver(" + i + "), to replica " + i, five().deliver(i), first[i]);
        }
        for (int r = 0; r < 7; r++) {
            ThreeChainLedger x = new ThreeChainLedger(2, 65, 4);
            x.claim(6, 1, 0, r);
            CHECK.due("deliver(0), to replica " + r + " of seven", x.deliver(0), r == 0 || r == 6 ? 0 : 1);
        }
    }

    private static void flowTimes() {
        CHECK.sentence("-1, refused, if m is not 0 .. 40");
        int[] counts = {0, 1, 40};
        int[] none = {-1, 41, 42, Integer.MIN_VALUE, Integer.MAX_VALUE};
        for (int count : counts) {
            for (int m : none) {
                CHECK.refused("flow(" + m + ") when " + count + " wait", () -> row(count), x -> x.flow(m));
            }
        }
        ThreeChainLedger x = row(40);
        CHECK.due("flow(0) when 40 wait", x.flow(0), 0);
        CHECK.due("waiting()", x.waiting(), 40);
        CHECK.due("flow(1) when 40 wait", x.flow(1), 1);
        CHECK.due("waiting()", x.waiting(), 39);
        CHECK.due("flow(39) when 39 wait", x.flow(39), 39);
        CHECK.due("flow(40) when 40 wait", row(40).flow(40), 40);
        CHECK.due("flow(39) when 40 wait", row(40).flow(39), 39);
        CHECK.unchanged("flow(0)", () -> row(40), y -> y.flow(0));
    }

    private static void flowUntilNoneWaits() {
        CHECK.sentence("m times or until none waits: how often that was");
        CHECK.due("flow(0) when none waits", row(0).flow(0), 0);
        CHECK.due("flow(1) when none waits", row(0).flow(1), 0);
        CHECK.due("flow(40) when none waits", row(0).flow(40), 0);
        CHECK.due("flow(4) when 5 wait", row(5).flow(4), 4);
        CHECK.due("flow(5) when 5 wait", row(5).flow(5), 5);
        CHECK.due("flow(6) when 5 wait", row(5).flow(6), 5);
        CHECK.due("flow(40) when 5 wait", row(5).flow(40), 5);
        CHECK.unchanged("flow(40) when none waits", () -> row(0), y -> y.flow(40));
    }

    private static void flowTakesTheOldest() {
        CHECK.sentence("Delivers the oldest message, m times");
        for (int m = 0; m <= 5; m++) {
            ThreeChainLedger x = five();
            ThreeChainLedger y = five();
            x.flow(m);
            for (int i = 0; i < m; i++) {
                y.deliver(0);
            }
            CHECK.due("votes(1) after flow(" + m + ")", x.votes(1), new int[] {0, 1, 1, 5, 13, 13}[m]);
            for (int i = 0; i < 6; i++) {
                CHECK.due("message(" + i + ") after flow(" + m + ")", x.message(i), y.message(i));
            }
        }
    }

    private static void flowCountsWhatItCauses() {
        CHECK.sentence("Delivers the oldest message, m times or until none waits (those sent meanwhile, too)");
        // Four proposals and a NEWVIEW; three correct replicas vote.
        CHECK.due("flow(7) when 5 wait and 3 come", five().flow(7), 7);
        CHECK.due("flow(8) when 5 wait and 3 come", five().flow(8), 8);
        CHECK.due("flow(9) when 5 wait and 3 come", five().flow(9), 8);
        ThreeChainLedger x = fullWithProposal(0);
        CHECK.due("flow(40) when 40 wait and one comes", x.flow(40), 40);
        CHECK.due("waiting()", x.waiting(), 1);
        CHECK.due("flow(40) of the last", x.flow(40), 1);
    }

    private static void dropAPlace() {
        CHECK.sentence("False, refused, if there is no such place (drop)");
        int[] counts = {0, 1, 2, 39, 40};
        for (int count : counts) {
            Supplier<ThreeChainLedger> scene = () -> row(count);
            int[] none = {-1, count, count + 1, 41, Integer.MIN_VALUE, Integer.MAX_VALUE};
            for (int i : none) {
                CHECK.denied("drop(" + i + ") when " + count + " wait", scene, x -> x.drop(i));
            }
            if (count > 0) {
                CHECK.due("drop(0) when " + count + " wait", row(count).drop(0), true);
                ThreeChainLedger x = row(count);
                CHECK.due("drop of the last when " + count + " wait", x.drop(count - 1), true);
                CHECK.due("waiting() after it", x.waiting(), count - 1);
                CHECK.due("drop of the last once more", x.drop(count - 1), false);
            }
        }
    }

    private static void dropTakesTheMessageAtThePlace() {
        CHECK.sentence("The message at place i leaves the row");
        for (int i = 0; i < 5; i++) {
            ThreeChainLedger x = five();
            CHECK.due("drop(" + i + ")", x.drop(i), true);
            dueRowWithout(x, i);
            CHECK.due("waiting() after drop(" + i + ")", x.waiting(), 4);
        }
    }

    private static void dropIsNotLost() {
        CHECK.sentence("(It does not count as lost.)");
        ThreeChainLedger x = row(40);
        for (int i = 39; i >= 0; i--) {
            x.drop(i / 2);
        }
        CHECK.due("waiting()", x.waiting(), 0);
        CHECK.due("lost()", x.lost(), 0);
    }

    private static void dropIsUndelivered() {
        CHECK.sentence("leaves the row undelivered");
        ThreeChainLedger x = five();
        for (int i = 0; i < 5; i++) {
            x.drop(0);
        }
        CHECK.due("votes(1)", x.votes(1), 0);
        for (int r = 0; r < 4; r++) {
            if (r != 1) {
                CHECK.dueState(x, r, 1, 0, 2, 0, r == 0 ? 1 : 0, 0, 0, 0, 0);
            }
        }
    }
}
