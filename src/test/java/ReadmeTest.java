import java.io.IOException;
import java.lang.reflect.InvocationTargetException;
import java.lang.reflect.Method;
import java.lang.reflect.Modifier;
import java.nio.file.Files;
import java.nio.file.Path;
import java.util.HashSet;
import java.util.Map;
import java.util.Set;
import java.util.regex.Matcher;
import java.util.regex.Pattern;

/** The examples of README.md answer as it says there, and it leaves out no call. Runs in the project's folder. */
public final class ReadmeTest {
    private static final Due DUE = new Due("ReadmeTest");
    private static final Path README = Path.of("README.md");
    private static final String NEW_OBJECT = "TextShelves x = new TextShelves();";
    private static final Pattern CALL = Pattern.compile(
        "x\\.(\\w+)\\((.*)\\); +// (-?\\d+|[A-Z]+|true|false)(?:: \"(.*)\" on shelf (\\d)|, .+)?");
    private static final Map<String, Long> WORDS = Map.of("true", 1L, "false", 0L,
        "NONE", (long) TextShelves.NONE, "UNFIT", (long) TextShelves.UNFIT, "BEYOND", (long) TextShelves.BEYOND,
        "BAD", (long) TextShelves.BAD, "FULL", (long) TextShelves.FULL);

    private final Set<String> called = new HashSet<>();
    private TextShelves x;

    public static void main(String[] args) throws IOException, IllegalAccessException, InvocationTargetException {
        String use = partOf(Files.readString(README), "## How to use it", "## How to run its tests");
        ReadmeTest test = new ReadmeTest();
        Matcher example = Pattern.compile("(?s)```java\n(.*?)```").matcher(use);
        while (example.find()) {
            test.follow(example.group(1));
        }
        for (Method method : TextShelves.class.getDeclaredMethods()) {
            if (Modifier.isPublic(method.getModifiers())) {
                DUE.yes("README.md explains " + method.getName(), use.contains("`" + method.getName() + "("));
                DUE.yes("README.md has an example of " + method.getName(), test.called.contains(method.getName()));
            }
        }
        DUE.end();
    }

    private static String partOf(String page, String head, String next) {
        int from = page.indexOf(head);
        int until = page.indexOf(next);
        DUE.yes("README.md has " + head + " and then " + next, from >= 0 && from < until);
        return from >= 0 && from < until ? page.substring(from, until) : "";
    }

    private void follow(String example) throws IllegalAccessException, InvocationTargetException {
        x = null;
        for (String line : example.split("\n")) {
            if (line.equals(NEW_OBJECT)) {
                x = new TextShelves();
            } else {
                call(line);
            }
        }
    }

    private void call(String line) throws IllegalAccessException, InvocationTargetException {
        Matcher parts = CALL.matcher(line);
        boolean readable = x != null && parts.matches();
        DUE.yes("a call with its answer is: " + line, readable);
        if (!readable) {
            return;
        }
        called.add(parts.group(1));
        String[] told = parts.group(2).isEmpty() ? new String[0] : parts.group(2).split(", ");
        DUE.is(line, answer(parts.group(1), told), number(parts.group(3)));
        if (parts.group(4) != null) {
            DUE.text(line, x, Integer.parseInt(parts.group(5)), parts.group(4));
        }
    }

    private long answer(String name, String[] told) throws IllegalAccessException, InvocationTargetException {
        Method call = named(name);
        Object[] arguments = new Object[told.length];
        for (int i = 0; i < told.length; i++) {
            long number = number(told[i]);
            arguments[i] = call.getParameterTypes()[i] == long.class ? (Object) number : (Object) (int) number;
        }
        Object answer = call.invoke(x, arguments);
        return answer instanceof Boolean yes ? number(yes.toString()) : ((Number) answer).longValue();
    }

    private static Method named(String name) {
        for (Method method : TextShelves.class.getDeclaredMethods()) {
            if (method.getName().equals(name)) {
                return method;
            }
        }
        throw new IllegalStateException("README.md calls " + name);
    }

    private static long number(String written) {
        if (WORDS.containsKey(written)) {
            return WORDS.get(written);
        }
        if (written.startsWith("'")) {
            return written.charAt(1);
        }
        return Long.decode(written.endsWith("L") ? written.substring(0, written.length() - 1) : written);
    }
}
