import java.io.IOException;
import java.lang.reflect.Method;
import java.lang.reflect.Modifier;
import java.nio.file.Files;
import java.nio.file.Path;
import java.util.Set;
import java.util.TreeSet;
import java.util.regex.Matcher;
import java.util.regex.Pattern;

/** The examples of README.md, one run on one object: each call answers what stands behind it. */
public final class ReadmeTests {
    private static final Pattern CALL =
            Pattern.compile("    tree\\.(\\w+)\\(([0-9, ]*)\\); +// (-?[0-9]+|[A-Z_]+)(, .*)?");
    private static final Pattern TYPED =
            Pattern.compile("    for \\(char each : \"(.*)\"\\.toCharArray\\(\\)\\) tree\\.type\\(each\\);");

    private final Check check = new Check("readme");
    private final SummedParents tree = new SummedParents();
    private final Set<String> shown = new TreeSet<>();

    public static void main(String[] args) throws IOException, ReflectiveOperationException {
        ReadmeTests tests = new ReadmeTests();
        for (String line : Files.readAllLines(Path.of("README.md"))) {
            tests.tryLine(line);
        }
        tests.check.due("the methods that are shown", tests.shown.toString(), methods().toString());
        tests.check.end();
    }

    private static Set<String> methods() {
        Set<String> names = new TreeSet<>();
        for (Method method : SummedParents.class.getDeclaredMethods()) {
            if (Modifier.isPublic(method.getModifiers())) {
                names.add(method.getName());
            }
        }
        return names;
    }

    private void tryLine(String line) throws ReflectiveOperationException {
        Matcher call = CALL.matcher(line);
        Matcher typed = TYPED.matcher(line);
        if (call.matches()) {
            shown.add(call.group(1));
            check.due(line.strip(), answer(call.group(1), call.group(2)), due(call.group(3)));
        } else if (typed.matches()) {
            shown.add("type");
            for (char each : typed.group(1).toCharArray()) {
                int length = tree.count(7);
                check.due(line.strip(), tree.type(each), length + 1);
            }
        } else {
            // An example that is not of these forms would go untried.
            check.due("tried: " + line, line.startsWith("    tree.") || line.startsWith("    for") ? 1 : 0, 0);
        }
    }

    private int answer(String name, String arguments) throws ReflectiveOperationException {
        String[] texts = arguments.isEmpty() ? new String[0] : arguments.split(", ");
        Object[] values = new Object[texts.length];
        Class<?>[] types = new Class<?>[texts.length];
        for (int index = 0; index < texts.length; index++) {
            values[index] = Integer.parseInt(texts[index]);
            types[index] = int.class;
        }
        return (Integer) SummedParents.class.getMethod(name, types).invoke(tree, values);
    }

    private static int due(String answer) throws ReflectiveOperationException {
        if (Character.isUpperCase(answer.charAt(0))) {
            return SummedParents.class.getField(answer).getInt(null);
        }
        return Integer.parseInt(answer);
    }
}
