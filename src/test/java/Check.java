import java.util.List;
import java.util.function.Predicate;
import java.util.function.Supplier;
import java.util.function.ToIntFunction;

/** Counts the answers of one test that are not the ones that are due, and tells each of them. */
final class Check {
    private int wrong;
    private String sentence = "";

    /** The words of the document by which the next answers are due. */
    void sentence(String words) {
        sentence = "\"" + words + "\": ";
    }

    void due(String call, int got, int want) {
        if (got != want) {
            tell(call + " answered " + got + ", due is " + want);
        }
    }

    void due(String call, boolean got, boolean want) {
        due(call, got ? 1 : 0, want ? 1 : 0);
    }

    /** What state(r, 0), state(r, 1) and so on answer. */
    void dueState(ThreeChainLedger x, int r, int... state) {
        for (int what = 0; what < state.length; what++) {
            due("state(" + r + ", " + what + ")", x.state(r, what), state[what]);
        }
    }

    /** The call answers -1 in the scene, and changes nothing there. */
    void refused(String call, Supplier<ThreeChainLedger> scene, ToIntFunction<ThreeChainLedger> asked) {
        due(call, asked.applyAsInt(scene.get()), -1);
        unchanged(call, scene, asked);
    }

    /** The call answers false in the scene, and changes nothing there. */
    void denied(String call, Supplier<ThreeChainLedger> scene, Predicate<ThreeChainLedger> asked) {
        due(call, asked.test(scene.get()), false);
        unchanged(call, scene, x -> asked.test(x) ? 1 : 0);
    }

    /** All answers after the call are those from before it. */
    void unchanged(String call, Supplier<ThreeChainLedger> scene, ToIntFunction<ThreeChainLedger> asked) {
        Supplier<ThreeChainLedger> after = () -> {
            ThreeChainLedger x = scene.get();
            asked.applyAsInt(x);
            return x;
        };
        same(call, Answers.now(scene), Answers.now(after));
        same(call, Answers.later(scene), Answers.later(after));
    }

    private void same(String call, List<String> without, List<String> with) {
        for (int i = 0; i < Math.min(without.size(), with.size()); i++) {
            if (!without.get(i).equals(with.get(i))) {
                tell("after " + call + ": " + with.get(i) + ", without it: " + without.get(i));
                return;
            }
        }
    }

    private void tell(String what) {
        wrong++;
        System.out.println(sentence + what);
    }

    void end() {
        if (wrong != 0) {
            System.out.println(wrong + " answers are not as due");
            System.exit(1);
        }
        System.out.println("all answers are as due");
    }
}
