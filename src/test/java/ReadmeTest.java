import java.io.IOException;
import java.lang.reflect.Method;
import java.nio.file.Files;
import java.nio.file.Path;
import java.util.ArrayList;
import java.util.List;
import java.util.regex.Matcher;
import java.util.regex.Pattern;

/** README.md: its examples are answered as it says, and it tells of each member of the public face. */
public final class ReadmeTest {
    private static final Pattern MAKING =
        Pattern.compile("ThreeChainLedger x = new ThreeChainLedger\\((.*?)\\); +// .*");
    private static final Pattern CALL = Pattern.compile("x\\.(\\w+)\\((.*?)\\); +// (-?\\d+|true|false)(:.*)?");
    private static final Check CHECK = new Check();

    public static void main(String[] args) throws IOException, ReflectiveOperationException {
        List<String> lines = Files.readAllLines(Path.of("README.md"));
        CHECK.sentence("README.md");
        everyExampleIsAnsweredSo(lines);
        everyMemberIsTold(lines);
        CHECK.end();
    }

    private static void everyExampleIsAnsweredSo(List<String> lines) throws ReflectiveOperationException {
        ThreeChainLedger x = null;
        int calls = 0;
        for (String line : exampleLines(lines)) {
            Matcher making = MAKING.matcher(line);
            Matcher call = CALL.matcher(line);
            if (making.matches()) {
                Object[] given = numbers(making.group(1));
                x = new ThreeChainLedger((int) given[0], (int) given[1], (int) given[2]);
            } else if (call.matches() && x != null) {
                calls++;
                String got = answer(x, call.group(1), numbers(call.group(2)));
                CHECK.due(line + " [" + got + "]: is that the answer?", got.equals(call.group(3)), true);
            } else {
                CHECK.due("a line of an example that can be tried: " + line, false, true);
            }
        }
        CHECK.due("there are examples", calls > 0, true);
    }

    private static List<String> exampleLines(List<String> lines) {
        List<String> examples = new ArrayList<>();
        boolean inside = false;
        for (String line : lines) {
            if (line.startsWith("```")) {
                inside = line.equals("```java");
            } else if (inside) {
                examples.add(line);
            }
        }
        return examples;
    }

    private static Object[] numbers(String list) {
        List<Object> numbers = new ArrayList<>();
        for (String number : list.split(", ")) {
            if (!number.isEmpty()) {
                numbers.add(Integer.valueOf(number));
            }
        }
        return numbers.toArray();
    }

    private static String answer(ThreeChainLedger x, String name, Object[] given) throws ReflectiveOperationException {
        for (Method method : ThreeChainLedger.class.getMethods()) {
            if (method.getName().equals(name) && method.getParameterCount() == given.length) {
                return String.valueOf(method.invoke(x, given));
            }
        }
        return "nothing, as there is no such method";
    }

    private static void everyMemberIsTold(List<String> lines) {
        for (String member : FaceTest.FACE) {
            int told = 0;
            for (String line : lines) {
                told += line.startsWith("| `" + member + "` |") ? 1 : 0;
            }
            CHECK.due("rows for " + member, told, 1);
        }
    }
}
