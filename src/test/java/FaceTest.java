import java.lang.reflect.Constructor;
import java.lang.reflect.Field;
import java.lang.reflect.Method;
import java.lang.reflect.Modifier;
import java.util.Set;
import java.util.TreeSet;

/** The public face: just the document's constant, constructor and methods, and nothing else but private. */
public final class FaceTest {
    private static final Set<String> DUE = Set.of(
        "boolean poke(int, int)", "void start()", "void stop()", "int give(int)", "boolean ring()", "int step(int)",
        "boolean go(int)", "int far(int)", "int cut()", "int record(int)", "int pages(int)", "int log(int, int)",
        "int register(int)", "int word(int)", "int outs()", "int out(int)");

    private FaceTest() {
    }

    public static void main(String[] args) {
        Cases cases = Cases.ofTerms("The constants:");
        cases.hold(11, "The constants: `NONE = -1`: Nothing there.", FaceTest::none);
        cases.also("The public face, the class", FaceTest::theClass);
        cases.also("The public face, its methods", FaceTest::methods);
        cases.also("The public face, its constructor", FaceTest::constructors);
        cases.also("The public face, its constants", FaceTest::fields);
        cases.end();
    }

    private static void none(Check check) {
        check.due("NONE", RewindBox.NONE, -1);
        check.due("record(0) of a new one", new RewindBox(4).record(0), -1);
    }

    private static void theClass(Check check) {
        check.due("the class is final", Modifier.isFinal(RewindBox.class.getModifiers()), true);
        check.due("the class is public", Modifier.isPublic(RewindBox.class.getModifiers()), true);
    }

    private static void methods(Check check) {
        Set<String> found = new TreeSet<>();
        Set<String> publicNames = new TreeSet<>();
        Set<String> privateNames = new TreeSet<>();
        for (Method method : RewindBox.class.getDeclaredMethods()) {
            if (Modifier.isPrivate(method.getModifiers())) {
                privateNames.add(method.getName());
                continue;
            }
            found.add(written(method));
            publicNames.add(method.getName());
            check.due(method + " is public", Modifier.isPublic(method.getModifiers()), true);
        }
        check.due("the methods " + found + " are those of the document", found.equals(DUE), true);
        privateNames.retainAll(publicNames);
        check.due("names " + privateNames + " that are private and public", privateNames.size(), 0);
    }

    private static String written(Method method) {
        StringBuilder text = new StringBuilder(method.getReturnType().getName());
        text.append(' ').append(method.getName()).append('(');
        String between = "";
        for (Class<?> type : method.getParameterTypes()) {
            text.append(between).append(type.getName());
            between = ", ";
        }
        return text.append(')').toString();
    }

    private static void constructors(Check check) {
        Constructor<?>[] all = RewindBox.class.getDeclaredConstructors();
        check.due("constructors", all.length, 1);
        check.due("the constructor is public", Modifier.isPublic(all[0].getModifiers()), true);
        check.due("the constructor takes one int",
            all[0].getParameterCount() == 1 && all[0].getParameterTypes()[0] == int.class, true);
    }

    private static void fields(Check check) {
        for (Field field : RewindBox.class.getDeclaredFields()) {
            boolean isFace = field.getName().equals("NONE");
            check.due(field + " is private", Modifier.isPrivate(field.getModifiers()), !isFace);
            if (Modifier.isStatic(field.getModifiers())) {
                check.due(field + " is final", Modifier.isFinal(field.getModifiers()), true);
            }
        }
    }
}
