import java.io.IOException;
import java.lang.reflect.Method;
import java.lang.reflect.Modifier;
import java.nio.file.Files;
import java.nio.file.Path;
import java.util.List;
import java.util.regex.Matcher;
import java.util.regex.Pattern;

/** What README.md says: the answers of its example, and a row for every call of the face. */
public final class ReadmeTest {
    private static final Pattern CALL = Pattern.compile("x\\.(\\w+)\\((.*)\\); +// ([^:]+).*");

    private static final Checks CHECKS = new Checks("ReadmeTest");

    public static void main(String[] args) throws IOException, ReflectiveOperationException {
        List<String> lines = Files.readAllLines(Path.of("README.md"));
        for (int store : Texts.STORES) {
            exampleAnswersAsItSays(lines, store);
        }
        everyCallHasARow(lines);
        CHECKS.close();
    }

    private static void exampleAnswersAsItSays(List<String> lines, int store)
            throws ReflectiveOperationException {
        CHECKS.sentence("README.md: Each comment begins with what the call answers");
        VersionedText x = new VersionedText(store);
        int begun = lines.indexOf("```java") + 1;
        CHECKS.due("its first line", lines.get(begun), "VersionedText x = new VersionedText(1);");
        for (int i = begun + 1; !lines.get(i).equals("```"); i++) {
            String line = lines.get(i);
            Matcher call = CALL.matcher(line);
            if (call.matches()) {
                answerIsAsSaid(x, call);
            } else {
                CHECKS.due(line, "no call with its answer", "one");
            }
        }
    }

    private static void answerIsAsSaid(VersionedText x, Matcher call)
            throws ReflectiveOperationException {
        Method method = named(call.group(1));
        Object answer = method.invoke(x, arguments(call.group(2)));
        if (method.getReturnType() != void.class) {
            String shown = answer.equals(VersionedText.NONE) ? "NONE" : answer.toString();
            CHECKS.due(call.group(), shown, call.group(3));
        }
    }

    private static Method named(String name) throws NoSuchMethodException {
        for (Method method : VersionedText.class.getDeclaredMethods()) {
            if (method.getName().equals(name)) {
                return method;
            }
        }
        throw new NoSuchMethodException(name);
    }

    private static Object[] arguments(String written) {
        String[] parts = written.isEmpty() ? new String[0] : written.split(", ");
        Object[] given = new Object[parts.length];
        for (int i = 0; i < parts.length; i++) {
            given[i] = parts[i].startsWith("'") ? (Object) unit(parts[i])
                    : (Object) Integer.parseInt(parts[i]);
        }
        return given;
    }

    private static char unit(String quoted) {
        String inside = quoted.substring(1, quoted.length() - 1);
        if (inside.startsWith("\\u")) {
            return (char) Integer.parseInt(inside.substring(2), 16);
        }
        return inside.translateEscapes().charAt(0);
    }

    private static void everyCallHasARow(List<String> lines) {
        CHECKS.sentence("README.md: what its calls do and answer");
        for (Method method : VersionedText.class.getDeclaredMethods()) {
            if (Modifier.isPublic(method.getModifiers())) {
                String row = "| `" + method.getReturnType() + " " + method.getName() + "(";
                CHECKS.due("rows " + row, rows(lines, row), 1);
            }
        }
        CHECKS.due("rows of the constructor", rows(lines, "| `VersionedText(int store)`"), 1);
    }

    private static long rows(List<String> lines, String begun) {
        return lines.stream().filter(line -> line.startsWith(begun)).count();
    }
}
