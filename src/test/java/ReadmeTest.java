import java.io.IOException;
import java.lang.reflect.InvocationTargetException;
import java.lang.reflect.Method;
import java.nio.file.Files;
import java.nio.file.Path;
import java.util.ArrayList;
import java.util.List;
import java.util.Set;
import java.util.TreeSet;
import java.util.regex.Matcher;
import java.util.regex.Pattern;

/** The calls that README.md shows answer as README.md says, and it shows all that there are. */
public final class ReadmeTest {
    private static final Path FILE = Path.of("README.md");
    private static final Pattern BLOCK = Pattern.compile("(?ms)^```java\n(.*?)^```$");
    private static final Pattern MAKING = Pattern.compile("RewindBox box = new RewindBox\\((\\d+)\\); +// .+");
    private static final Pattern CALL = Pattern.compile("box\\.(\\w+)\\((.*?)\\);(?: +// (.+))?");
    private static final Pattern ANSWER = Pattern.compile("(true|false|NONE|-?\\d+)(?:: .+)?");
    private static final Pattern TABLE_CALL = Pattern.compile("(?m)^\\| `(\\w+)\\((.*?)\\)` \\|");

    private final Check check;
    private final Set<String> shown = new TreeSet<>();
    private RewindBox box;

    private ReadmeTest(Check check) {
        this.check = check;
    }

    public static void main(String[] args) throws IOException, IllegalAccessException {
        Check check = new Check();
        String text = Files.readString(FILE);
        ReadmeTest test = new ReadmeTest(check);
        int blocks = 0;
        for (Matcher block = BLOCK.matcher(text); block.find(); blocks++) {
            test.play("README.md, example " + (blocks + 1), block.group(1));
        }
        check.under("README.md");
        check.due("there are examples", blocks > 0, true);
        check.due("all calls are shown: " + test.shown, test.shown.equals(namesOfTheFace()), true);
        check.due("all calls are in the table: " + inTheTable(text), inTheTable(text).equals(callsOfTheFace()), true);
        check.end();
    }

    private void play(String heading, String example) throws IllegalAccessException {
        box = null;
        int number = 0;
        for (String line : example.split("\n")) {
            number++;
            check.under(heading + ", line " + number);
            if (!line.isBlank()) {
                doLine(line);
            }
        }
    }

    private void doLine(String line) throws IllegalAccessException {
        Matcher making = MAKING.matcher(line);
        Matcher call = CALL.matcher(line);
        if (making.matches()) {
            box = new RewindBox(Integer.parseInt(making.group(1)));
        } else if (box != null && call.matches()) {
            doCall(call.group(1), numbers(call.group(2)), call.group(3));
        } else {
            check.wrong("this is no call: " + line);
        }
    }

    private void doCall(String name, Object[] arguments, String said) throws IllegalAccessException {
        Method method = find(name, arguments.length);
        if (method == null) {
            check.wrong("there is no such call as " + name);
            return;
        }
        shown.add(name);
        Object got;
        try {
            got = method.invoke(box, arguments);
        } catch (InvocationTargetException e) {
            check.wrong(name + " threw " + e.getCause());
            return;
        }
        Matcher answer = ANSWER.matcher(said == null ? "" : said);
        if (method.getReturnType() == void.class) {
            check.due(name + " is said to answer", answer.matches(), false);
        } else if (answer.matches()) {
            check.due(name, asNumber(got.toString()), asNumber(answer.group(1)));
        } else {
            check.wrong("what " + name + " answers is not said");
        }
    }

    private static Method find(String name, int arguments) {
        for (Method method : RewindBox.class.getMethods()) {
            if (isOfTheFace(method) && method.getName().equals(name) && method.getParameterCount() == arguments) {
                return method;
            }
        }
        return null;
    }

    private static boolean isOfTheFace(Method method) {
        return method.getDeclaringClass() == RewindBox.class;
    }

    private static Object[] numbers(String written) {
        List<Object> found = new ArrayList<>();
        for (String one : written.isEmpty() ? new String[0] : written.split(", ")) {
            found.add((int) (long) Long.decode(one));
        }
        return found.toArray();
    }

    private static long asNumber(String answer) {
        switch (answer) {
            case "true":
                return 1;
            case "false":
                return 0;
            case "NONE":
                return RewindBox.NONE;
            default:
                return Long.parseLong(answer);
        }
    }

    private static Set<String> namesOfTheFace() {
        Set<String> names = new TreeSet<>();
        for (Method method : RewindBox.class.getMethods()) {
            if (isOfTheFace(method)) {
                names.add(method.getName());
            }
        }
        return names;
    }

    /** Each with how many arguments it takes. */
    private static Set<String> callsOfTheFace() {
        Set<String> calls = new TreeSet<>();
        for (Method method : RewindBox.class.getMethods()) {
            if (isOfTheFace(method)) {
                calls.add(method.getName() + "/" + method.getParameterCount());
            }
        }
        return calls;
    }

    private static Set<String> inTheTable(String text) {
        Set<String> calls = new TreeSet<>();
        for (Matcher call = TABLE_CALL.matcher(text); call.find(); ) {
            int arguments = call.group(2).isEmpty() ? 0 : call.group(2).split(", ").length;
            calls.add(call.group(1) + "/" + arguments);
        }
        return calls;
    }
}
