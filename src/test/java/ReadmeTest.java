import java.io.IOException;
import java.lang.reflect.InvocationTargetException;
import java.lang.reflect.Method;
import java.lang.reflect.Modifier;
import java.nio.file.Files;
import java.nio.file.Path;
import java.util.List;
import java.util.regex.Matcher;
import java.util.regex.Pattern;

/** The examples of README.md are run as they stand there, one after the other on one object. */
public final class ReadmeTest {
    private static final Path README = Path.of("README.md");
    private static final String NEW_OBJECT = "RoleSessions x = new RoleSessions();";
    private static final Pattern TYPING = Pattern.compile("for \\(char c : \"(.*)\"\\.toCharArray\\(\\)\\) x\\.type\\(c\\);");
    private static final Pattern CALL = Pattern.compile("x\\.(\\w+)\\(([^)]*)\\); +// (-?\\w+)(:.*)?");

    public static void main(String[] args) throws IOException, InvocationTargetException, IllegalAccessException {
        Checks c = new Checks("README.md");
        List<String> lines = Files.readAllLines(README);
        examplesHold(c, lines);
        tableIsWhole(c, lines);
        c.finish();
    }

    private static void examplesHold(Checks c, List<String> lines)
            throws InvocationTargetException, IllegalAccessException {
        c.sentence("README.md says how to use the class: its examples");
        RoleSessions x = null;
        boolean inExample = false;
        for (String line : lines) {
            if (line.startsWith("```")) {
                inExample = line.equals("```java");
            } else if (inExample && line.equals(NEW_OBJECT)) {
                x = new RoleSessions();
            } else if (inExample) {
                runLine(c, x, line);
            }
        }
    }

    private static void runLine(Checks c, RoleSessions x, String line)
            throws InvocationTargetException, IllegalAccessException {
        Matcher typing = TYPING.matcher(line);
        Matcher call = CALL.matcher(line);
        if (typing.matches()) {
            Checks.typed(x, typing.group(1));
        } else if (call.matches()) {
            c.due(line, answer(x, call.group(1), call.group(2)), call.group(3));
        } else {
            c.due(line, "a line that this test can't read", "a call with its answer");
        }
    }

    private static String answer(RoleSessions x, String name, String numbers)
            throws InvocationTargetException, IllegalAccessException {
        String[] words = numbers.isEmpty() ? new String[0] : numbers.split(", ");
        Object[] values = new Object[words.length];
        for (int k = 0; k < words.length; k++) {
            values[k] = Integer.valueOf(words[k]);
        }
        for (Method m : RoleSessions.class.getDeclaredMethods()) {
            if (Modifier.isPublic(m.getModifiers()) && m.getName().equals(name)
                    && m.getParameterCount() == values.length) {
                return String.valueOf(m.invoke(x, values));
            }
        }
        return "no such call";
    }

    private static void tableIsWhole(Checks c, List<String> lines) {
        c.sentence("README.md says how to use the class: every call of its face");
        for (Method m : RoleSessions.class.getDeclaredMethods()) {
            if (Modifier.isPublic(m.getModifiers())) {
                boolean told = lines.stream().anyMatch(line -> line.startsWith("|") && line.contains("`" + m.getName() + "("));
                c.due("a row with " + m.getName(), told, true);
            }
        }
    }
}
