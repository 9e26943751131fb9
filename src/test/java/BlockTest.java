/** Promises 14 to 16: block, payload and votes. */
public final class BlockTest {
    private static final Check CHECK = new Check();

    public static void main(String[] args) {
        block();
        payload();
        votes();
        CHECK.end();
    }

    private static void block() {
        ThreeChainLedger x = Scene.withLiar();
        CHECK.due("block(0)", x.block(0), 0);
        CHECK.due("block(1)", x.block(1), -1);
        Scene.show(x, 0, 2, 0, 1, 2);
        Scene.show(x, 1, 7, 0, 1, 2);
        x.forge(2, 9999 - 9999 % 36 - 36 + 9, 0);
        CHECK.due("block(1)", x.block(1), 64 * 2);
        CHECK.due("block(2)", x.block(2), 64 * 7 + 1);
        CHECK.due("block(3)", x.block(3), 64 * 9945 + 2);
        int[] refused = {-1, 4, 40, Integer.MIN_VALUE, Integer.MAX_VALUE};
        for (int b : refused) {
            CHECK.due("block(" + b + ")", x.block(b), -1);
        }
    }

    private static void payload() {
        ThreeChainLedger x = Scene.withLiar();
        for (int t = 0; t < 24; t++) {
            x.submit(0, 0, 1, 1);
        }
        x.forge(0, 1, 0);
        x.forge(0, 1, 0xFFFFFF);
        x.forge(0, 1, 1 << 23);
        CHECK.due("payload(0)", x.payload(0), 0);
        CHECK.due("payload(1)", x.payload(1), 0);
        CHECK.due("payload(2)", x.payload(2), 0xFFFFFF);
        CHECK.due("payload(3)", x.payload(3), 1 << 23);
        int[] refused = {-1, 4, 40, Integer.MIN_VALUE, Integer.MAX_VALUE};
        for (int b : refused) {
            CHECK.due("payload(" + b + ")", x.payload(b), -1);
        }
    }

    private static void votes() {
        ThreeChainLedger x = new ThreeChainLedger(2, 8, 4);
        x.lead(0);
        CHECK.due("votes(0)", x.votes(0), 0);
        CHECK.due("votes(1)", x.votes(1), 0);
        x.deliver(6);
        CHECK.due("votes(1), its vote still waiting", x.votes(1), 64);
        x.vote(3, 1, 0);
        x.flow(40);
        CHECK.due("votes(1), without the corrupt one", x.votes(1), 127 - 8);
        int[] refused = {-1, 2, 40, Integer.MIN_VALUE, Integer.MAX_VALUE};
        for (int b : refused) {
            CHECK.due("votes(" + b + ")", x.votes(b), -1);
        }
    }
}
