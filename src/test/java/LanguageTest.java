import java.io.IOException;
import java.lang.reflect.Field;
import java.lang.reflect.Modifier;
import java.nio.file.Files;
import java.nio.file.Path;
import java.util.ArrayList;
import java.util.HashSet;
import java.util.List;
import java.util.Map;
import java.util.Set;
import java.util.TreeMap;
import java.util.regex.MatchResult;
import java.util.regex.Pattern;

/** The class keeps to the rules of ../shared/LANGUAGE.md that can be seen in its text, and to rule 7 in long runs. */
public final class LanguageTest {
    private static final String NAME = "ReplenishRules";
    private static final Path FOLDER = Path.of("src/main/java");
    private static final Set<String> LIBRARY = Set.of("Math.max", "Math.min");
    private static final Set<String> THROWN = Set.of("IllegalStateException", "IllegalArgumentException",
        "IndexOutOfBoundsException", "ArithmeticException", "UnsupportedOperationException", "NoSuchElementException",
        "RuntimeException");
    private static final Set<String> NO_METHODS = Set.of("if", "for", "while", "switch", "catch");
    /** The class needs none of these, so that the rules about them need no closer look. */
    private static final String[] UNUSED = {"->", "::", "\\btry\\b", "\\bcatch\\b", "\\bfinally\\b",
        "\\bsynchronized\\b", "\\bassert\\b", "\\bwhile\\b", "\\bdo\\b", "\\bdouble\\b", "\\bfloat\\b", "\\bString\\b",
        "\\binstanceof\\b", "\\bstatic *\\{", "\"\" *\\+", "\\+ *\"\"", "\\bpackage\\b", "@"};

    private static String code = "";

    public static void main(String[] args) throws IOException {
        code = withoutTexts(Files.readString(FOLDER.resolve(NAME + ".java")));
        oneFile();
        unused();
        libraryOfRule4();
        staticFieldsOfRule5();
        exceptionsOfRule6();
        loopsOfRule9();
        classesOfRule11();
        methodsOfRule11();
        neverThrowsByItself();
        Check.finish();
    }

    /** Without comments, and with every written text empty. */
    private static String withoutTexts(String source) {
        return source.replaceAll("(?s)/\\*.*?\\*/", "").replaceAll("\"[^\"\n]*\"", "\"\"").replaceAll("//[^\n]*", "");
    }

    private static List<MatchResult> found(String pattern) {
        return Pattern.compile(pattern).matcher(code).results().toList();
    }

    private static void oneFile() throws IOException {
        try (var files = Files.list(FOLDER)) {
            Check.due("files of the program", files.count(), 1);
        }
    }

    private static void unused() {
        for (String pattern : UNUSED) {
            for (MatchResult match : found(pattern)) {
                Check.fail("the class uses " + match.group());
            }
        }
    }

    private static void libraryOfRule4() {
        for (MatchResult match : found("import ([\\w.]+);")) {
            Check.due("import " + match.group(1), match.group(1).equals("java.util.NoSuchElementException"), true);
        }
        for (MatchResult match : found("\\b[A-Z][A-Za-z]+\\.[A-Za-z_]+")) {
            boolean ofTheImport = match.group().startsWith("NoSuchElementException");
            Check.due("rule 4 of " + match.group(), ofTheImport || LIBRARY.contains(match.group()), true);
        }
    }

    private static void staticFieldsOfRule5() {
        for (Class<?> c : classes()) {
            for (Field field : c.getDeclaredFields()) {
                boolean isConstant = Modifier.isFinal(field.getModifiers()) && field.getType() == int.class;
                Check.due("whether it is no constant: " + field,
                    Modifier.isStatic(field.getModifiers()) && !isConstant, false);
            }
        }
    }

    private static List<Class<?>> classes() {
        List<Class<?>> all = new ArrayList<>(List.of(ReplenishRules.class.getDeclaredClasses()));
        all.add(ReplenishRules.class);
        return all;
    }

    private static void exceptionsOfRule6() {
        Check.due("throws that make what they throw", found("\\bthrow new \\w+\\(\"\"\\);").size(),
            found("\\bthrow\\b").size());
        for (MatchResult match : found("\\bthrow new (\\w+)")) {
            Check.due("rule 6 of " + match.group(1), THROWN.contains(match.group(1)), true);
        }
        for (Map.Entry<String, String> method : methods().entrySet()) {
            boolean makes = Character.isUpperCase(method.getKey().charAt(0));
            Check.due(method.getKey() + " throws as a constructor",
                makes && method.getValue().contains("throw "), false);
        }
    }

    private static void loopsOfRule9() {
        int bounded = found("\\bfor \\(int (\\w+) = [^;]+; \\1 < [\\w.]+; \\1\\+\\+\\)").size();
        Check.due("loops with a counter and a bound", bounded, found("\\bfor\\b").size());
    }

    private static void classesOfRule11() {
        Check.due("classes, the one outside with them", classes().size(), found("\\bclass \\w+").size());
        Check.due("at most twelve classes", classes().size() <= 12, true);
        for (Class<?> c : classes()) {
            int fields = 0;
            for (Field field : c.getDeclaredFields()) {
                fields += Modifier.isStatic(field.getModifiers()) ? 0 : 1;
            }
            Check.due("at most twenty fields of " + c, fields <= 20, true);
        }
    }

    /** Each method's body by its name; methods of one name are taken as one. */
    private static Map<String, String> methods() {
        Map<String, String> all = new TreeMap<>();
        String head = "(?m)^ {4}(?: {4})?(?:[\\w\\[\\]]+ )*(\\w+)\\(([^)]*)\\)[^;{=]*\\{";
        for (MatchResult match : found(head)) {
            String name = match.group(1);
            if (!NO_METHODS.contains(name)) {
                String body = bodyFrom(match.end());
                Check.due(name + " takes at most seven parameters", match.group(2).split(",").length <= 7, true);
                Check.due(name + " is short", body.split("\n").length <= 60, true);
                all.merge(name, body, String::concat);
            }
        }
        return all;
    }

    private static String bodyFrom(int start) {
        int open = 1;
        int at = start;
        while (open > 0 && at < code.length()) {
            char c = code.charAt(at++);
            open += c == '{' ? 1 : c == '}' ? -1 : 0;
        }
        return code.substring(start, at);
    }

    private static void methodsOfRule11() {
        Map<String, String> all = methods();
        Check.due("whether the public calls are among the methods", all.keySet().containsAll(Set.of("place", "face",
            "put", "use", "hold", "cases", "rule", "factor", "wave", "open", "day", "mean", "forecast", "threshold",
            "above", "run", "move", "done", "told")), true);
        for (String name : all.keySet()) {
            Check.due("calls behind " + name + " go at most eight deep", depth(all, name, new HashSet<>()) <= 8, true);
        }
    }

    private static int depth(Map<String, String> all, String name, Set<String> open) {
        if (!open.add(name)) {
            Check.fail(name + " calls itself");
            return 0;
        }
        int deepest = 0;
        for (String called : all.keySet()) {
            if (Pattern.compile("\\b" + called + "\\(").matcher(all.get(name)).find()) {
                deepest = Math.max(deepest, depth(all, called, open));
            }
        }
        open.remove(name);
        return deepest + 1;
    }

    /** Rule 7, for any state: also behind the 512th call, where what is used on one day is beyond an int. */
    private static void neverThrowsByItself() {
        ReplenishRules x = new ReplenishRules();
        x.place(0, 100000, 0);
        x.face(0, 0, 5, 5);
        x.put(1, 0, 1000);
        x.factor(0, 1000, 1);
        int[] times = {21474, 21475, 42949, 42950};
        for (int i = 0; i < times.length; i++) {
            for (int n = 0; n < times[i]; n++) {
                x.put(0, 0, 100000);
                x.use(0, 100000);
            }
            x.day(i + 1);
            for (int kind = 0; kind < 3; kind++) {
                x.rule(0, kind, 30, 399);
                Check.taken("forecast", () -> x.forecast(0));
                Check.taken("threshold", () -> x.threshold(0));
                Check.taken("above", () -> x.above(0));
                Check.taken("mean of a day", () -> x.mean(0, 1));
                Check.taken("mean of all days", () -> x.mean(0, 60));
                Check.taken("run", () -> x.run());
            }
        }
    }
}
