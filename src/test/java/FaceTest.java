import java.lang.reflect.Constructor;
import java.lang.reflect.Executable;
import java.lang.reflect.Field;
import java.lang.reflect.Method;
import java.lang.reflect.Modifier;
import java.util.ArrayList;
import java.util.HashSet;
import java.util.List;
import java.util.Set;

/** The public face: the members that the document lists, and no other that can be reached from outside. */
public final class FaceTest {
    static final List<String> FACE = List.of(
        "ThreeChainLedger(int faults, int corrupt, int turns)",
        "int submit(int holders, int from, int to, int amount)",
        "int lead(int r)",
        "int tick(int r)",
        "int deliver(int i)",
        "int flow(int m)",
        "boolean drop(int i)",
        "int forge(int parent, int view, int set)",
        "boolean offer(int b, int r)",
        "boolean vote(int s, int b, int r)",
        "boolean claim(int s, int view, int c, int r)",
        "int waiting()",
        "int message(int i)",
        "int block(int b)",
        "int payload(int b)",
        "int votes(int b)",
        "int state(int r, int what)",
        "int committed(int r, int i)",
        "int balance(int r, int account)",
        "int outcome(int r, int t)",
        "int lost()");

    private static final Class<?> PROGRAM = ThreeChainLedger.class;
    private static final Check CHECK = new Check();

    public static void main(String[] args) {
        CHECK.sentence("The public face");
        theClassIsPublicAndFinal();
        theFaceIsTheDocuments();
        nothingElseIsVisible();
        noPrivateMethodBearsAPublicName();
        classesInsideAreStatic();
        staticFieldsAreFinal();
        CHECK.end();
    }

    private static void theClassIsPublicAndFinal() {
        CHECK.due("public", Modifier.isPublic(PROGRAM.getModifiers()), true);
        CHECK.due("final", Modifier.isFinal(PROGRAM.getModifiers()), true);
        CHECK.due("without a package", PROGRAM.getPackageName().isEmpty(), true);
    }

    private static void theFaceIsTheDocuments() {
        Set<String> due = new HashSet<>();
        for (String member : FACE) {
            due.add(withoutNames(member));
        }
        List<String> there = new ArrayList<>();
        for (Constructor<?> made : PROGRAM.getDeclaredConstructors()) {
            there.add(made.getName() + types(made));
        }
        for (Method method : PROGRAM.getDeclaredMethods()) {
            if (!Modifier.isPrivate(method.getModifiers())) {
                there.add(method.getReturnType().getName() + " " + method.getName() + types(method));
                CHECK.due(method.getName() + " is static", Modifier.isStatic(method.getModifiers()), false);
            }
        }
        for (String member : there) {
            CHECK.due(member + " is in the document", due.remove(member), true);
        }
        for (String member : due) {
            CHECK.due(member + " is there", false, true);
        }
    }

    /** "int drop(int i)" without the parameters' names. */
    private static String withoutNames(String member) {
        return member.replaceAll("int \\w+([,)])", "int$1");
    }

    private static String types(Executable executable) {
        List<String> types = new ArrayList<>();
        for (Class<?> type : executable.getParameterTypes()) {
            types.add(type.getName());
        }
        return "(" + String.join(", ", types) + ")";
    }

    private static void nothingElseIsVisible() {
        for (Constructor<?> made : PROGRAM.getDeclaredConstructors()) {
            CHECK.due("the constructor is public", Modifier.isPublic(made.getModifiers()), true);
        }
        for (Method method : PROGRAM.getDeclaredMethods()) {
            boolean hidden = Modifier.isPrivate(method.getModifiers());
            CHECK.due(method + " is public or private", hidden || Modifier.isPublic(method.getModifiers()), true);
        }
        for (Field field : PROGRAM.getDeclaredFields()) {
            CHECK.due(field.getName() + " is private", Modifier.isPrivate(field.getModifiers()), true);
        }
    }

    private static void noPrivateMethodBearsAPublicName() {
        Set<String> publicNames = new HashSet<>();
        for (Method method : PROGRAM.getDeclaredMethods()) {
            if (Modifier.isPublic(method.getModifiers())) {
                publicNames.add(method.getName());
            }
        }
        for (Method method : PROGRAM.getDeclaredMethods()) {
            if (Modifier.isPrivate(method.getModifiers())) {
                CHECK.due(method + " bears a public name", publicNames.contains(method.getName()), false);
            }
        }
    }

    private static void classesInsideAreStatic() {
        for (Class<?> inside : PROGRAM.getDeclaredClasses()) {
            int is = inside.getModifiers();
            CHECK.due(inside.getName() + " is static", Modifier.isStatic(is), true);
            CHECK.due(inside.getName() + " is hidden", Modifier.isPublic(is) || Modifier.isProtected(is), false);
        }
    }

    private static void staticFieldsAreFinal() {
        List<Class<?>> classes = new ArrayList<>(List.of(PROGRAM.getDeclaredClasses()));
        classes.add(PROGRAM);
        for (Class<?> holder : classes) {
            for (Field field : holder.getDeclaredFields()) {
                int is = field.getModifiers();
                CHECK.due(field + " is final", Modifier.isFinal(is) || !Modifier.isStatic(is), true);
            }
        }
    }
}
