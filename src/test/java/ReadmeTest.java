import java.io.IOException;
import java.lang.reflect.InvocationTargetException;
import java.lang.reflect.Method;
import java.nio.charset.StandardCharsets;
import java.nio.file.Files;
import java.nio.file.Path;
import java.util.Set;
import java.util.TreeSet;
import java.util.regex.Matcher;
import java.util.regex.Pattern;

/** The example of README.md answers what it says there, and its table of calls names them all. */
public final class ReadmeTest {
    private static final Due due = new Due("ReadmeTest");
    private static final Pattern CALL = Pattern.compile("\\s+x\\.(\\w+)\\(([^)]*)\\);\\s*// (-?\\d+)\\b.*");
    private static final Pattern TELL = Pattern.compile("\\s+tell\\(x, \"([^\"]*)\"\\);");

    public static void main(String[] args) throws IOException, ReflectiveOperationException {
        String readme = Files.readString(Path.of("README.md"), StandardCharsets.UTF_8);
        example(readme);
        tableOfCalls(readme);
        due.end();
    }

    private static void example(String readme) throws ReflectiveOperationException {
        int from = readme.indexOf("```java\n");
        String code = readme.substring(from, readme.indexOf("\n```\n", from));
        LampThatFollows x = new LampThatFollows();
        int calls = 0;
        for (String line : code.split("\n")) {
            Matcher tell = TELL.matcher(line);
            Matcher call = CALL.matcher(line);
            if (tell.matches()) Due.feed(x, tell.group(1));
            if (!call.matches()) continue;
            calls++;
            due.is(line.strip(), answer(x, call.group(1), call.group(2)), Integer.parseInt(call.group(3)));
        }
        due.is("calls of the example, some at least", Math.min(calls, 15), 15);
    }

    private static int answer(LampThatFollows x, String name, String told)
            throws IllegalAccessException, InvocationTargetException {
        String[] parts = told.isEmpty() ? new String[0] : told.split(", ");
        Object[] numbers = new Object[parts.length];
        for (int i = 0; i < parts.length; i++) numbers[i] = Integer.valueOf(parts[i]);
        for (Method m : LampThatFollows.class.getMethods()) {
            if (m.getName().equals(name)) return (int) m.invoke(x, numbers);
        }
        throw new IllegalArgumentException("README.md calls " + name);
    }

    private static void tableOfCalls(String readme) {
        int from = readme.indexOf("| calls |");
        String table = readme.substring(from, readme.indexOf("\n\n", from));
        Set<String> told = new TreeSet<>();
        Matcher name = Pattern.compile("`(\\w+)`").matcher(table);
        while (name.find()) told.add(name.group(1));
        Set<String> has = new TreeSet<>();
        for (Method m : LampThatFollows.class.getDeclaredMethods()) {
            if (java.lang.reflect.Modifier.isPublic(m.getModifiers())) has.add(m.getName());
        }
        due.is("calls " + has + " and those told " + told, has.equals(told) ? 1 : 0, 1);
    }
}
