import java.util.function.Supplier;

/** Promise 2: the edges of submit, and that a refused one changes nothing. */
public final class SubmitEdgesTest {
    private static final Check CHECK = new Check();

    public static void main(String[] args) {
        holdersMayBeNobody();
        holdersAreReplicas();
        theFirstAccount();
        theSecondAccount();
        bothAccountsAreNotTheSame();
        theAmount();
        twentyFourTransfers();
        numbersGoOnAfterARefusal();
        CHECK.end();
    }

    /** One transfer is there, and a proposal of it waits. */
    private static ThreeChainLedger four() {
        return withTransfer(1);
    }

    private static ThreeChainLedger seven() {
        return withTransfer(2);
    }

    private static ThreeChainLedger withTransfer(int faults) {
        ThreeChainLedger x = new ThreeChainLedger(faults, 2, 4);
        x.submit(1, 0, 1, 10);
        x.lead(0);
        return x;
    }

    private static void taken(Supplier<ThreeChainLedger> scene, int holders, int from, int to, int amount) {
        String call = "submit(" + holders + ", " + from + ", " + to + ", " + amount + ")";
        ThreeChainLedger x = scene.get();
        CHECK.due(call, x.submit(holders, from, to, amount), 1);
        CHECK.due("outcome(0, 1) after " + call, x.outcome(0, 1), 0);
    }

    private static void refused(Supplier<ThreeChainLedger> scene, int holders, int from, int to, int amount) {
        String call = "submit(" + holders + ", " + from + ", " + to + ", " + amount + ")";
        CHECK.refused(call, scene, x -> x.submit(holders, from, to, amount));
    }

    private static void holdersMayBeNobody() {
        CHECK.sentence("(holders may be 0.)");
        taken(SubmitEdgesTest::four, 0, 0, 1, 1);
        taken(SubmitEdgesTest::seven, 0, 0, 1, 1);
        ThreeChainLedger x = new ThreeChainLedger(1, 0, 4);
        x.submit(0, 0, 1, 1);
        x.lead(0);
        CHECK.due("payload(1), nobody holding the transfer", x.payload(1), 0);
    }

    private static void holdersAreReplicas() {
        CHECK.sentence("-1, refused, if holders has a bit that is no replica's");
        for (int holders = 0; holders < 16; holders++) {
            taken(SubmitEdgesTest::four, holders, 0, 1, 1);
        }
        for (int bit = 0; bit < 7; bit++) {
            taken(SubmitEdgesTest::seven, 1 << bit, 0, 1, 1);
        }
        taken(SubmitEdgesTest::seven, 127, 0, 1, 1);
        for (int bit = 4; bit < 32; bit++) {
            refused(SubmitEdgesTest::four, 1 << bit, 0, 1, 1);
            refused(SubmitEdgesTest::four, 15 | 1 << bit, 0, 1, 1);
        }
        for (int bit = 7; bit < 32; bit++) {
            refused(SubmitEdgesTest::seven, 1 << bit, 0, 1, 1);
            refused(SubmitEdgesTest::seven, 127 | 1 << bit, 0, 1, 1);
        }
        refused(SubmitEdgesTest::four, -1, 0, 1, 1);
        refused(SubmitEdgesTest::seven, -1, 0, 1, 1);
    }

    private static void theFirstAccount() {
        CHECK.sentence("-1, refused, if an account (from) is not 0 .. 3");
        taken(SubmitEdgesTest::four, 15, 0, 1, 1);
        taken(SubmitEdgesTest::four, 15, 3, 1, 1);
        refused(SubmitEdgesTest::four, 15, -1, 1, 1);
        refused(SubmitEdgesTest::four, 15, 4, 1, 1);
        refused(SubmitEdgesTest::four, 15, Integer.MIN_VALUE, 1, 1);
        refused(SubmitEdgesTest::four, 15, Integer.MAX_VALUE, 1, 1);
    }

    private static void theSecondAccount() {
        CHECK.sentence("-1, refused, if an account (to) is not 0 .. 3");
        taken(SubmitEdgesTest::four, 15, 1, 0, 1);
        taken(SubmitEdgesTest::four, 15, 1, 3, 1);
        refused(SubmitEdgesTest::four, 15, 1, -1, 1);
        refused(SubmitEdgesTest::four, 15, 1, 4, 1);
        refused(SubmitEdgesTest::four, 15, 1, Integer.MIN_VALUE, 1);
        refused(SubmitEdgesTest::four, 15, 1, Integer.MAX_VALUE, 1);
    }

    private static void bothAccountsAreNotTheSame() {
        CHECK.sentence("-1, refused, if both are the same");
        for (int from = 0; from < 4; from++) {
            for (int to = 0; to < 4; to++) {
                if (from == to) {
                    refused(SubmitEdgesTest::four, 15, from, to, 1);
                } else {
                    taken(SubmitEdgesTest::four, 15, from, to, 1);
                }
            }
        }
    }

    private static void theAmount() {
        CHECK.sentence("-1, refused, if the amount is not 1 .. 1000");
        taken(SubmitEdgesTest::four, 15, 0, 1, 1);
        taken(SubmitEdgesTest::four, 15, 0, 1, 2);
        taken(SubmitEdgesTest::four, 15, 0, 1, 999);
        taken(SubmitEdgesTest::four, 15, 0, 1, 1000);
        refused(SubmitEdgesTest::four, 15, 0, 1, 0);
        refused(SubmitEdgesTest::four, 15, 0, 1, -1);
        refused(SubmitEdgesTest::four, 15, 0, 1, 1001);
        refused(SubmitEdgesTest::four, 15, 0, 1, Integer.MAX_VALUE);
        refused(SubmitEdgesTest::four, 15, 0, 1, Integer.MIN_VALUE);
    }

    private static ThreeChainLedger withTransfers(int faults, int count, int holders) {
        ThreeChainLedger x = new ThreeChainLedger(faults, 8, 9);
        for (int t = 0; t < count; t++) {
            x.submit(holders, 0, 1, 1);
        }
        return x;
    }

    private static void twentyFourTransfers() {
        CHECK.sentence("-1, refused, if 24 transfers are there");
        for (int faults = 1; faults <= 2; faults++) {
            int f = faults;
            ThreeChainLedger x = withTransfers(f, 23, 3);
            CHECK.due("outcome(1, 23) when 23 are there", x.outcome(1, 23), -1);
            CHECK.due("submit(3, 2, 3, 7) when 23 are there", x.submit(3, 2, 3, 7), 23);
            CHECK.due("outcome(1, 23) when 24 are there", x.outcome(1, 23), 0);
            CHECK.due("outcome(1, 24) when 24 are there", x.outcome(1, 24), -1);
            Supplier<ThreeChainLedger> held = () -> withTransfers(f, 24, 3);
            CHECK.refused("submit(3, 2, 3, 7) when 24 are held", held, y -> y.submit(3, 2, 3, 7));
            CHECK.refused("submit(0, 2, 3, 7) when 24 are held", held, y -> y.submit(0, 2, 3, 7));
            Supplier<ThreeChainLedger> unheld = () -> withTransfers(f, 24, 0);
            CHECK.refused("submit(3, 2, 3, 7) when 24 are there", unheld, y -> y.submit(3, 2, 3, 7));
        }
        // Replica 3 is corrupt and leads the views 28 to 36.
        CHECK.due("forge(0, 28, 1 << 23) when 23 are there", withTransfers(1, 23, 0).forge(0, 28, 1 << 23), -1);
        CHECK.due("forge(0, 28, 1 << 23) when 24 are there", withTransfers(1, 24, 0).forge(0, 28, 1 << 23), 1);
    }

    private static void numbersGoOnAfterARefusal() {
        CHECK.sentence("TRANSFERS are numbered 0, 1, .. as they are submitted");
        ThreeChainLedger x = new ThreeChainLedger(1, 0, 4);
        for (int t = 0; t < 24; t++) {
            CHECK.due("a submit that is refused", x.submit(15, 2, 2, 1), -1);
            CHECK.due("the next submit", x.submit(15, 0, 1, 1), t);
        }
    }
}
