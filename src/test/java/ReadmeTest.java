import java.io.IOException;
import java.lang.reflect.InvocationTargetException;
import java.lang.reflect.Method;
import java.lang.reflect.Modifier;
import java.nio.file.Files;
import java.nio.file.Path;
import java.util.Set;
import java.util.TreeSet;
import java.util.regex.Matcher;
import java.util.regex.Pattern;

/** The example in README.md: each call answers what stands behind it, and each method is shown. */
public final class ReadmeTest {
    private static final Pattern MAKING =
            Pattern.compile("BridgeCells wall = new BridgeCells\\((\\d+), (\\d+)\\);.*");
    private static final Pattern CALL =
            Pattern.compile("(?:int joint = )?wall\\.(\\w+)\\((.*)\\); +"
                    + "// (true|false|-?\\d+)\\b.*");

    private final Set<String> shown = new TreeSet<>();
    private BridgeCells wall = null;
    private int joint = 0;

    public static void main(String[] args) throws IOException, ReflectiveOperationException {
        ReadmeTest test = new ReadmeTest();
        boolean inside = false;
        for (String line : Files.readAllLines(Path.of("README.md"))) {
            if (line.startsWith("```")) {
                inside = line.equals("```java");
            } else if (inside && !line.isEmpty()) {
                test.follow(line);
            }
        }
        Check.due("the methods that the example shows", test.shown.toString(), all().toString());
        Check.end();
    }

    private void follow(String line) throws ReflectiveOperationException {
        Matcher making = MAKING.matcher(line);
        Matcher call = CALL.matcher(line);
        if (making.matches()) {
            int x = Integer.parseInt(making.group(1));
            int y = Integer.parseInt(making.group(2));
            wall = new BridgeCells(x, y);
        } else if (wall != null && call.matches()) {
            shown.add(call.group(1));
            Check.due(line, answer(call.group(1), call.group(2)), call.group(3));
        } else {
            Check.due("a line of the example", line, "a call with the answer that is due");
        }
    }

    private String answer(String name, String args) throws ReflectiveOperationException {
        for (Method method : BridgeCells.class.getDeclaredMethods()) {
            if (method.getName().equals(name)) {
                return called(method, numbers(args));
            }
        }
        return "no such method";
    }

    private String called(Method method, Object[] numbers) throws ReflectiveOperationException {
        try {
            String got = method.invoke(wall, numbers).toString();
            if (method.getName().equals("joint")) {
                joint = Integer.parseInt(got);
            }
            return got;
        } catch (InvocationTargetException e) {
            return "throws " + e.getCause();
        }
    }

    private Object[] numbers(String args) {
        String[] parts = args.isEmpty() ? new String[0] : args.split(", ");
        Object[] numbers = new Object[parts.length];
        for (int k = 0; k < parts.length; k++) {
            numbers[k] = parts[k].equals("joint") ? joint : Integer.parseInt(parts[k]);
        }
        return numbers;
    }

    private static Set<String> all() {
        Set<String> names = new TreeSet<>();
        for (Method method : BridgeCells.class.getDeclaredMethods()) {
            if (Modifier.isPublic(method.getModifiers())) {
                names.add(method.getName());
            }
        }
        return names;
    }
}
