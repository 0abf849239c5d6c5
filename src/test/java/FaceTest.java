import java.lang.reflect.Constructor;
import java.lang.reflect.Field;
import java.lang.reflect.Method;
import java.lang.reflect.Modifier;
import java.util.Set;
import java.util.TreeSet;

/** The public face: just the document's constant, constructor and methods, and nothing else but private. */
public final class FaceTest {
    private static final int FIRST_METHODS_PROMISE = 2;
    private static final String[] METHODS = {
        "public boolean poke(int place, int v);", "public void start();", "public void stop();",
        "public int give(int v);", "public boolean ring();", "public int step(int n);",
        "public boolean go(int position);", "public int far(int position);", "public int cut();",
        "public int record(int what);", "public int pages(int k);", "public int log(int i, int what);",
        "public int register(int i);", "public int word(int place);", "public int outs();", "public int out(int i);",
    };

    private FaceTest() {
    }

    public static void main(String[] args) {
        Cases face = Cases.ofTheFace();
        face.hold(1, "public final class RewindBox {", FaceTest::theClass);
        face.hold(1, "public static final int NONE = -1;", FaceTest::fields);
        face.hold(1, "public RewindBox(int interval);", FaceTest::constructors);
        for (int i = 0; i < METHODS.length; i++) {
            String method = METHODS[i];
            face.hold(FIRST_METHODS_PROMISE + i, method, check -> isThere(check, method));
        }
        face.hold(1, "}", FaceTest::noOtherMethod);
        face.end();
        Cases constants = Cases.ofTerms("The constants:");
        constants.hold(11, "The constants: `NONE = -1`: Nothing there.", FaceTest::none);
        constants.end();
    }

    private static void none(Check check) {
        check.due("NONE", RewindBox.NONE, -1);
        check.due("record(0) of a new one", new RewindBox(4).record(0), -1);
    }

    private static void theClass(Check check) {
        check.due("the class is final", Modifier.isFinal(RewindBox.class.getModifiers()), true);
        check.due("the class is public", Modifier.isPublic(RewindBox.class.getModifiers()), true);
    }

    private static void isThere(Check check, String line) {
        String due = line.replaceAll("int \\w+(?=[,)])", "int");
        Set<String> found = new TreeSet<>();
        for (Method method : RewindBox.class.getMethods()) {
            found.add("public " + written(method) + ";");
        }
        check.due("there is a method " + due, found.contains(due), true);
    }

    private static void noOtherMethod(Check check) {
        int publicMethods = 0;
        Set<String> publicNames = new TreeSet<>();
        Set<String> privateNames = new TreeSet<>();
        for (Method method : RewindBox.class.getDeclaredMethods()) {
            if (Modifier.isPrivate(method.getModifiers())) {
                privateNames.add(method.getName());
                continue;
            }
            publicMethods++;
            publicNames.add(method.getName());
            check.due(method + " is public", Modifier.isPublic(method.getModifiers()), true);
            check.due(method + " is static", Modifier.isStatic(method.getModifiers()), false);
        }
        check.due("public methods", publicMethods, METHODS.length);
        privateNames.retainAll(publicNames);
        check.due("names " + privateNames + " that are private and public", privateNames.size(), 0);
    }

    private static String written(Method method) {
        StringBuilder text = new StringBuilder(method.getReturnType().getName());
        text.append(' ').append(method.getName()).append('(');
        String between = "";
        for (Class<?> type : method.getParameterTypes()) {
            text.append(between).append(type.getName());
            between = ", ";
        }
        return text.append(')').toString();
    }

    private static void constructors(Check check) {
        Constructor<?>[] all = RewindBox.class.getDeclaredConstructors();
        check.due("constructors", all.length, 1);
        check.due("the constructor is public", Modifier.isPublic(all[0].getModifiers()), true);
        check.due("the constructor takes one int",
            all[0].getParameterCount() == 1 && all[0].getParameterTypes()[0] == int.class, true);
    }

    private static void fields(Check check) {
        int found = 0;
        for (Field field : RewindBox.class.getDeclaredFields()) {
            int modifiers = field.getModifiers();
            if (Modifier.isStatic(modifiers)) {
                check.due(field + " is final", Modifier.isFinal(modifiers), true);
            }
            if (!field.getName().equals("NONE")) {
                check.due(field + " is private", Modifier.isPrivate(modifiers), true);
                continue;
            }
            found++;
            check.due("NONE is public", Modifier.isPublic(modifiers), true);
            check.due("NONE is static", Modifier.isStatic(modifiers), true);
            check.due("NONE is an int", field.getType() == int.class, true);
        }
        check.due("constants", found, 1);
    }
}
