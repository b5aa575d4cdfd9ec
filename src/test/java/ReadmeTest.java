import java.io.IOException;
import java.lang.reflect.InvocationTargetException;
import java.lang.reflect.Method;
import java.nio.file.Files;
import java.nio.file.Path;
import java.util.Set;
import java.util.TreeSet;
import java.util.regex.Matcher;
import java.util.regex.Pattern;

/** The examples of README.md answer as they stand there, and each call of the face is among them. */
public final class ReadmeTest {
    private static final Check CHECK = new Check("ReadmeTest");
    private static final Pattern CALL = Pattern.compile("teller\\.(\\w+)\\(([^)]*)\\);\\s*// (throws \\w+|[^ :]+).*");
    private static final ShortTeller TELLER = new ShortTeller();

    public static void main(String[] args) throws IOException, IllegalAccessException {
        Set<String> shown = new TreeSet<>();
        boolean inExample = false;
        for (String line : Files.readAllLines(Path.of("README.md"))) {
            if (line.startsWith("```")) {
                inExample = line.equals("```java");
            } else if (inExample && line.startsWith("teller.")) {
                Matcher call = CALL.matcher(line);
                CHECK.due(line + " has an answer", true, call.matches());
                CHECK.due(line, meant(call.group(3)), answerOf(call.group(1), call.group(2)));
                shown.add(call.group(1));
            }
        }
        CHECK.due("calls shown", namesOfTheFace().toString(), shown.toString());
        CHECK.end();
    }

    private static Set<String> namesOfTheFace() {
        Set<String> names = new TreeSet<>();
        for (Method method : ShortTeller.class.getMethods()) {
            if (method.getDeclaringClass() == ShortTeller.class) {
                names.add(method.getName());
            }
        }
        return names;
    }

    private static String meant(String answer) {
        if (answer.equals("NONE")) {
            return String.valueOf(ShortTeller.NONE);
        }
        return answer.startsWith("'") ? String.valueOf((int) answer.charAt(1)) : answer;
    }

    private static String answerOf(String name, String written) throws IllegalAccessException {
        String[] values = written.split(", ");
        for (Method method : ShortTeller.class.getMethods()) {
            if (method.getName().equals(name) && method.getParameterCount() == values.length) {
                return answerOf(method, values);
            }
        }
        return "no such call";
    }

    private static String answerOf(Method method, String[] values) throws IllegalAccessException {
        Object[] given = new Object[values.length];
        for (int i = 0; i < values.length; i++) {
            boolean isBoolean = method.getParameterTypes()[i] == boolean.class;
            given[i] = isBoolean ? (Object) Boolean.valueOf(values[i]) : Long.decode(values[i]).intValue();
        }
        try {
            return String.valueOf(method.invoke(TELLER, given));
        } catch (InvocationTargetException e) {
            return "throws " + e.getCause().getClass().getSimpleName();
        }
    }
}
