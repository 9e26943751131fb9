import java.lang.reflect.InvocationTargetException;
import java.lang.reflect.Method;
import java.lang.reflect.Modifier;
import java.util.Arrays;

/**
 * All promises: in some states, each call with each choice of arguments from the edges of all limits and far beyond
 * them, compared with the plain model. No call may throw, and one that is taken must leave both alike.
 */
public final class ArgumentsTest {
    private static final int[] EDGES = {
        Integer.MIN_VALUE, -1, 0, 1, 2, 3, 4, 6, 7, 8, 9, 10, 15, 16, 24, 31, 32, 33, 38, 39, 40, 41, 127, 128,
        1000, 1001, 9999, 10000, 1 << 24, Integer.MAX_VALUE,
    };
    /** For calls with four arguments, as all choices from the others would be too many. */
    private static final int[] FEWER_EDGES = {
        Integer.MIN_VALUE, -1, 0, 1, 3, 4, 7, 15, 16, 127, 128, 1000, 1001, Integer.MAX_VALUE,
    };
    /** So many calls of the grid go to one object: with the scene and the questions they are no more than 512. */
    private static final int MOST_GRID_CALLS = 60;
    private static final Check CHECK = new Check();

    /** The program and the plain model, which get the same calls. */
    private static final class Pair {
        final ThreeChainLedger x;
        final PlainModel y;

        Pair(int faults, int corrupt, int turns) {
            x = new ThreeChainLedger(faults, corrupt, turns);
            y = new PlainModel(faults, corrupt, turns);
        }

        /** The program's answer, a boolean being 1 or 0. */
        int call(Method method, int... arguments) throws ReflectiveOperationException {
            Object[] given = Arrays.stream(arguments).boxed().toArray();
            Method wanted = PlainModel.class.getDeclaredMethod(method.getName(), method.getParameterTypes());
            String text = method.getName() + Arrays.toString(arguments);
            int got = number(answer(method, text, given));
            CHECK.due(text, got, number(wanted.invoke(y, given)));
            return got;
        }

        private Object answer(Method method, String text, Object[] given) throws IllegalAccessException {
            try {
                return method.invoke(x, given);
            } catch (InvocationTargetException thrown) {
                CHECK.due(text + " throws " + thrown.getCause(), true, false);
                return -2;
            }
        }

        private static int number(Object answer) {
            return answer instanceof Boolean b ? (b ? 1 : 0) : (int) answer;
        }

        int call(String name, int... arguments) throws ReflectiveOperationException {
            Class<?>[] types = new Class<?>[arguments.length];
            Arrays.fill(types, int.class);
            return call(ThreeChainLedger.class.getMethod(name, types), arguments);
        }
    }

    private interface Maker {
        Pair make() throws ReflectiveOperationException;
    }

    public static void main(String[] args) throws ReflectiveOperationException {
        grid("a new object", () -> new Pair(1, 1, 9));
        grid("nobody corrupt", ArgumentsTest::honest);
        grid("some of all", ArgumentsTest::someOfAll);
        grid("one place free", () -> nearlyFull(1));
        grid("no place free", () -> nearlyFull(0));
        CHECK.end();
    }

    private static Pair honest() throws ReflectiveOperationException {
        Pair p = new Pair(1, 0, 4);
        for (int t = 0; t < 4; t++) {
            p.call("submit", 15, t, (t + 1) % 4, 60);
        }
        for (int i = 0; i < 6; i++) {
            p.call("lead", i / 4);
            p.call("flow", 40);
        }
        p.call("tick", 2);
        p.call("tick", 3);
        p.call("lead", 1);
        p.call("flow", 3);
        return p;
    }

    private static Pair someOfAll() throws ReflectiveOperationException {
        Pair p = new Pair(2, 3, 4);
        for (int t = 0; t < 7; t++) {
            p.call("submit", 127 - t, t % 4, (t + 2) % 4, 40 + t);
        }
        for (int b = 1; b <= 5; b++) {
            p.call("forge", b - 1, b < 4 ? b : b + 1, 1 << b);
            for (int r = 2; r < 7; r++) {
                p.call("offer", b, r);
            }
            p.call("flow", 40);
        }
        // A second block of view 2, which is never certified, and messages of all kinds.
        p.call("forge", 1, 2, 3);
        p.call("offer", 6, 3);
        p.call("offer", 5, 0);
        p.call("vote", 0, 5, 2);
        p.call("vote", 1, 5, 2);
        p.call("claim", 1, 7, 4, 6);
        p.call("claim", 0, 40, 5, 5);
        for (int r = 2; r < 5; r++) {
            p.call("tick", r);
            p.call("tick", r);
        }
        p.call("tick", 6);
        return p;
    }

    private static Pair nearlyFull(int free) throws ReflectiveOperationException {
        Pair p = new Pair(1, 1, 9);
        for (int t = 0; t < 24 - free; t++) {
            p.call("submit", 15, t % 4, (t + 1) % 4, 25 + t);
        }
        for (int b = 1; b <= 4; b++) {
            p.call("forge", b - 1, b, 3 << 2 * b);
            for (int r = 1; r < 4; r++) {
                p.call("offer", b, r);
            }
            p.call("flow", 40);
        }
        for (int b = 5; b < 40 - free; b++) {
            p.call("forge", b % 5, 5 + b % 5, b);
        }
        for (int i = 0; i < 40 - free; i++) {
            p.call("vote", 0, 4, i % 4);
        }
        CHECK.due("waiting() in the scene", p.x.waiting(), 40 - free);
        CHECK.due("block(39) in the scene", p.x.block(39) == -1, free == 1);
        CHECK.due("outcome(1, 23) in the scene", p.x.outcome(1, 23) == -1, free == 1);
        return p;
    }

    private static void grid(String state, Maker scene) throws ReflectiveOperationException {
        CHECK.sentence(state);
        for (Method method : ThreeChainLedger.class.getDeclaredMethods()) {
            if (Modifier.isPublic(method.getModifiers())) {
                grid(method, scene);
            }
        }
    }

    private static void grid(Method method, Maker scene) throws ReflectiveOperationException {
        int places = method.getParameterCount();
        int[] edges = places < 4 ? EDGES : FEWER_EDGES;
        int choices = 1;
        for (int i = 0; i < places; i++) {
            choices *= edges.length;
        }
        Pair p = scene.make();
        for (int choice = 0, calls = 0; choice < choices; choice++, calls++) {
            int answer = p.call(method, chosen(edges, places, choice));
            boolean taken = answer != (method.getReturnType() == boolean.class ? 0 : -1);
            if (taken || calls == MOST_GRID_CALLS) {
                questions(p);
                p = scene.make();
                calls = 0;
            }
        }
    }

    private static int[] chosen(int[] edges, int places, int choice) {
        int[] chosen = new int[places];
        for (int i = 0, rest = choice; i < places; i++, rest /= edges.length) {
            chosen[i] = edges[rest % edges.length];
        }
        return chosen;
    }

    private static void questions(Pair p) throws ReflectiveOperationException {
        int waiting = p.call("waiting");
        p.call("lost");
        p.call("message", waiting - 1);
        p.call("message", 0);
        int last = 39;
        while (p.y.block(last) == -1) {
            last--;
        }
        p.call("block", last);
        p.call("payload", last);
        p.call("votes", last);
        for (int r = 0; r < 7; r++) {
            for (int what = 0; what <= 8; what++) {
                p.call("state", r, what);
            }
            for (int account = 0; account < 4; account++) {
                p.call("balance", r, account);
            }
        }
    }
}
