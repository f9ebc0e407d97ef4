import java.io.IOException;
import java.lang.reflect.Method;
import java.lang.reflect.Modifier;
import java.nio.file.Files;
import java.nio.file.Path;
import java.util.Set;
import java.util.TreeSet;
import java.util.regex.Matcher;
import java.util.regex.Pattern;

/** README.md's example is played line by line: what a call answers stands first in its comment. */
public final class ReadmeTest {
    private static final Pattern CALL = Pattern.compile("^rules\\.(\\w+)\\(([^)]*)\\); +// (.*)$");
    private static final String FIRST_LINE = "ReplenishRules rules = new ReplenishRules();";

    public static void main(String[] args) throws IOException, ReflectiveOperationException {
        String readme = Files.readString(Path.of("README.md"));
        Set<String> shown = play(example(readme));
        for (Method method : ReplenishRules.class.getDeclaredMethods()) {
            if (Modifier.isPublic(method.getModifiers())) {
                Check.due("whether the example shows " + method.getName(), shown.contains(method.getName()), true);
            }
        }
        Check.due("whether README.md says how to run the tests", readme.contains("```sh\n.ci/run\n```"), true);
        Check.finish();
    }

    private static String[] example(String readme) {
        int start = readme.indexOf("```java\n");
        int end = readme.indexOf("\n```", start + 1);
        return start < 0 || end < 0 ? new String[0] : readme.substring(start + 8, end).split("\n");
    }

    private static Set<String> play(String[] lines) throws ReflectiveOperationException {
        Set<String> shown = new TreeSet<>();
        ReplenishRules rules = new ReplenishRules();
        for (String line : lines) {
            Matcher call = CALL.matcher(line);
            if (call.matches()) {
                shown.add(call.group(1));
                playCall(rules, line, call);
            } else if (!line.equals(FIRST_LINE)) {
                Check.fail("not a call with a comment: " + line);
            }
        }
        return shown;
    }

    private static void playCall(ReplenishRules rules, String line, Matcher call) throws ReflectiveOperationException {
        Method method = named(call.group(1));
        if (method == null) {
            Check.fail("there is no such call: " + line);
            return;
        }
        Object answer = method.invoke(rules, arguments(call.group(2)));
        boolean isTold = answer == null || call.group(3).startsWith(answer + ": ");
        if (!isTold) {
            Check.fail(line + " answered " + answer);
        }
    }

    private static Method named(String name) {
        for (Method method : ReplenishRules.class.getDeclaredMethods()) {
            if (Modifier.isPublic(method.getModifiers()) && method.getName().equals(name)) {
                return method;
            }
        }
        return null;
    }

    private static Object[] arguments(String text) {
        if (text.isEmpty()) {
            return new Object[0];
        }
        String[] parts = text.split(", ");
        Object[] all = new Object[parts.length];
        for (int i = 0; i < parts.length; i++) {
            boolean isNumber = parts[i].matches("-?\\d+");
            all[i] = isNumber ? (Object) Integer.valueOf(parts[i]) : (Object) Boolean.valueOf(parts[i]);
        }
        return all;
    }
}
