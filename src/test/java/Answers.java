import java.util.ArrayList;
import java.util.List;
import java.util.function.Consumer;
import java.util.function.Supplier;
import java.util.function.ToIntFunction;

/** All that an object can be asked, and what it answers. */
final class Answers {
    /** So many questions go to one object: with a scene of 200 calls and the 150 of goOn they are no more than 512. */
    private static final int PART = 160;
    private static final int REPLICAS = 7;
    private static final List<Question> QUESTIONS = questions();

    private record Question(String text, ToIntFunction<ThreeChainLedger> asked) {
    }

    private Answers() {
    }

    /** What the object of the scene answers to all questions. */
    static List<String> now(Supplier<ThreeChainLedger> scene) {
        List<String> answers = new ArrayList<>();
        List<Question> taken = ask(scene, QUESTIONS, answers);
        // Once more without the questions that were refused: they could hide what they change themselves.
        ask(scene, taken, answers);
        return answers;
    }

    /** What it answers when the replicas went on from there, by which all comes to light that no question tells. */
    static List<String> later(Supplier<ThreeChainLedger> scene) {
        List<String> answers = new ArrayList<>();
        later(scene, false, answers);
        later(scene, true, answers);
        return answers;
    }

    private static void later(Supplier<ThreeChainLedger> scene, boolean timersFirst, List<String> answers) {
        ThreeChainLedger told = scene.get();
        goOn(told, timersFirst, answers::add);
        answers.add("submit(0, 0, 1, 1) in the end = " + told.submit(0, 0, 1, 1));
        Supplier<ThreeChainLedger> after = () -> {
            ThreeChainLedger x = scene.get();
            goOn(x, timersFirst, answer -> { });
            return x;
        };
        ask(after, QUESTIONS, answers);
    }

    /** Adds the answers, and returns the questions that were not answered by -1. */
    private static List<Question> ask(Supplier<ThreeChainLedger> scene, List<Question> all, List<String> answers) {
        List<Question> taken = new ArrayList<>();
        for (int first = 0; first < all.size(); first += PART) {
            ThreeChainLedger x = scene.get();
            for (Question q : all.subList(first, Math.min(first + PART, all.size()))) {
                int answer = q.asked.applyAsInt(x);
                answers.add(q.text + " = " + answer);
                if (answer != -1) {
                    taken.add(q);
                }
            }
        }
        return taken;
    }

    private static void goOn(ThreeChainLedger x, boolean timersFirst, Consumer<String> answers) {
        if (timersFirst) {
            timersRun(x, answers);
            leadersLead(x, answers);
        } else {
            leadersLead(x, answers);
            timersRun(x, answers);
        }
        for (int i = 0; i < 2 * REPLICAS; i++) {
            answers.accept("vote(" + i % 2 + ", 1, " + i / 2 + ") in the end = " + x.vote(i % 2, 1, i / 2));
        }
        answers.accept("flow(40) in the end = " + x.flow(40));
    }

    private static void leadersLead(ThreeChainLedger x, Consumer<String> answers) {
        for (int round = 0; round < 15; round++) {
            answers.accept("flow(40) later on = " + x.flow(40));
            answers.accept("lead(0) later on = " + x.lead(0));
            answers.accept("lead(1) later on = " + x.lead(1));
        }
    }

    private static void timersRun(ThreeChainLedger x, Consumer<String> answers) {
        // Not all timers run as long at first, so that the NEWVIEWs are for different views.
        for (int r = 0; r < REPLICAS; r++) {
            tick(x, r, r % 2 == 0 ? 6 : 2, answers);
        }
        flowAndLead(x, answers);
        for (int r = 0; r < REPLICAS; r++) {
            answers.accept("state(" + r + ", 8) after ticks = " + x.state(r, 8));
        }
        for (int r = 1; r < REPLICAS; r += 2) {
            tick(x, r, 4, answers);
        }
        for (int round = 0; round < 4; round++) {
            flowAndLead(x, answers);
        }
    }

    private static void tick(ThreeChainLedger x, int r, int times, Consumer<String> answers) {
        for (int i = 0; i < times; i++) {
            answers.accept("tick(" + r + ") later on = " + x.tick(r));
        }
    }

    private static void flowAndLead(ThreeChainLedger x, Consumer<String> answers) {
        answers.accept("flow(40) after ticks = " + x.flow(40));
        for (int r = 0; r < REPLICAS; r++) {
            answers.accept("lead(" + r + ") after ticks = " + x.lead(r));
        }
    }

    private static void add(List<Question> all, String text, ToIntFunction<ThreeChainLedger> asked) {
        all.add(new Question(text, asked));
    }

    private static List<Question> questions() {
        List<Question> all = new ArrayList<>();
        add(all, "waiting()", ThreeChainLedger::waiting);
        add(all, "lost()", ThreeChainLedger::lost);
        for (int each = -1; each <= 40; each++) {
            int i = each;
            add(all, "message(" + i + ")", x -> x.message(i));
            add(all, "block(" + i + ")", x -> x.block(i));
            add(all, "payload(" + i + ")", x -> x.payload(i));
            add(all, "votes(" + i + ")", x -> x.votes(i));
        }
        for (int each = -1; each <= REPLICAS; each++) {
            questionsOf(each, all);
        }
        return all;
    }

    private static void questionsOf(int r, List<Question> all) {
        for (int each = -1; each <= 40; each++) {
            int i = each;
            if (i <= 9) {
                add(all, "state(" + r + ", " + i + ")", x -> x.state(r, i));
            }
            if (i <= 4) {
                add(all, "balance(" + r + ", " + i + ")", x -> x.balance(r, i));
            }
            if (i <= 24) {
                add(all, "outcome(" + r + ", " + i + ")", x -> x.outcome(r, i));
            }
            add(all, "committed(" + r + ", " + i + ")", x -> x.committed(r, i));
        }
    }
}
