import java.io.IOException;
import java.lang.reflect.InvocationTargetException;
import java.lang.reflect.Method;
import java.lang.reflect.Modifier;
import java.nio.file.Files;
import java.nio.file.Path;
import java.util.ArrayList;
import java.util.List;
import java.util.Set;
import java.util.TreeSet;
import java.util.regex.Matcher;
import java.util.regex.Pattern;

/** Makes the calls that README.md shows, and compares each answer with the one that stands behind the call. */
public final class ReadmeTest {
    private static final Path README = Path.of("README.md");
    private static final Pattern CALL = Pattern.compile("watch\\.(\\w+)\\(([^)]*)\\); +// (throws \\w+|[^ :]+)(: .*)?");
    private static final Pattern TYPING = Pattern.compile("for \\(char code : \"([^\"]*)\"\\.toCharArray\\(\\)\\) \\{");
    private static final String MAKING = "AltimeterWatch watch = new AltimeterWatch();";
    // They stand in the loop that types a text, which is read as one line.
    private static final Set<String> REST_OF_TYPING = Set.of("watch.append(code);", "}");

    private final Check check = new Check("ReadmeTest");
    private final Set<String> shown = new TreeSet<>();
    private AltimeterWatch watch;

    public static void main(String[] args) throws IOException {
        ReadmeTest test = new ReadmeTest();
        if (!Files.exists(README)) {
            System.out.println("ReadmeTest: README.md is not here; run it from the directory of the project");
            System.exit(1);
        }
        for (String line : javaLines()) {
            test.follow(line);
        }
        test.check.due("calls that README.md shows", test.shown.toString(), publicMethods().toString());
        test.check.end();
    }

    private static List<String> javaLines() throws IOException {
        List<String> lines = new ArrayList<>();
        boolean isJava = false;
        for (String line : Files.readAllLines(README)) {
            if (line.startsWith("```")) {
                isJava = line.equals("```java");
            } else if (isJava) {
                lines.add(line.strip());
            }
        }
        return lines;
    }

    private static Set<String> publicMethods() {
        Set<String> names = new TreeSet<>();
        for (Method method : AltimeterWatch.class.getDeclaredMethods()) {
            if (Modifier.isPublic(method.getModifiers())) {
                names.add(method.getName());
            }
        }
        return names;
    }

    private void follow(String line) {
        Matcher call = CALL.matcher(line);
        Matcher typing = TYPING.matcher(line);
        if (line.equals(MAKING)) {
            watch = new AltimeterWatch();
        } else if (call.matches()) {
            shown.add(call.group(1));
            check.due(line, answer(call.group(1), call.group(2)), call.group(3));
        } else if (typing.matches()) {
            Check.typed(watch, typing.group(1));
        } else {
            boolean isQuiet = line.isEmpty() || line.startsWith("//") || REST_OF_TYPING.contains(line);
            check.due(line + " is understood", isQuiet, true);
        }
    }

    private String answer(String name, String arguments) {
        for (Method method : AltimeterWatch.class.getDeclaredMethods()) {
            if (method.getName().equals(name)) {
                return answer(method, arguments.isEmpty() ? new String[0] : arguments.split(", "));
            }
        }
        return "no such call";
    }

    private String answer(Method method, String[] arguments) {
        Object[] values = new Object[arguments.length];
        for (int i = 0; i < values.length; i++) {
            boolean isNumber = method.getParameterTypes()[i] == int.class;
            values[i] = isNumber ? (Object) Integer.valueOf(arguments[i]) : (Object) Boolean.valueOf(arguments[i]);
        }
        try {
            return method.invoke(watch, values).toString();
        } catch (InvocationTargetException e) {
            return "throws " + e.getCause().getClass().getSimpleName();
        } catch (IllegalAccessException e) {
            return "not to be called";
        }
    }
}
