import java.io.IOException;
import java.nio.file.Files;
import java.nio.file.Path;
import java.util.ArrayList;
import java.util.Arrays;
import java.util.List;
import java.util.Map;
import java.util.Set;
import java.util.TreeMap;
import java.util.regex.Matcher;
import java.util.regex.Pattern;

/** ../shared/DOC.md by its headings: a test can name a sentence of it, and a sentence without a test is seen. */
final class Document {
    private static final Path FILE = Path.of("../shared/DOC.md");
    private static final Pattern WORD = Pattern.compile("[A-Za-z0-9']+");
    private static final Pattern HEAD = Pattern.compile("(public [^;{]*\\)[^;{]*);");
    private static final Map<String, String> SECTIONS = sections();

    private Document() {
    }

    static boolean isHere() {
        return !SECTIONS.isEmpty();
    }

    /** A sentence belongs to a promise if the promise's section has it, or what is said for all of them. */
    static boolean says(int promise, String sentence) {
        return !isHere() || ofAll().contains(sentence) || ofPromise(promise).contains(sentence);
    }

    /** The heads of the constructor and of the methods of the public face, as the document writes them. */
    static List<String> heads() {
        List<String> all = new ArrayList<>();
        Matcher head = HEAD.matcher(section("The public face"));
        while (head.find()) {
            all.add(head.group(1));
        }
        return all;
    }

    /** The words of the terms and of the promises that no test has named. */
    static List<String> unsaid(Map<Integer, Set<String>> said) {
        List<String> left = new ArrayList<>();
        List<String> ofAnyPromise = new ArrayList<>();
        said.values().forEach(ofAnyPromise::addAll);
        addUnsaid(left, "Terms", section("Terms"), ofAnyPromise);
        for (int promise = 1; promise <= 20; promise++) {
            addUnsaid(left, "Promise " + promise, ofPromise(promise), said.getOrDefault(promise, Set.of()));
        }
        return left;
    }

    private static void addUnsaid(List<String> left, String where, String text, Iterable<String> sentences) {
        boolean[] named = new boolean[text.length()];
        for (String sentence : sentences) {
            for (int at = text.indexOf(sentence); at >= 0; at = text.indexOf(sentence, at + 1)) {
                Arrays.fill(named, at, at + sentence.length(), true);
            }
        }
        Matcher word = WORD.matcher(text);
        while (word.find()) {
            if (!named[word.start()] || !named[word.end() - 1]) {
                left.add(where + ": " + word.group());
            }
        }
    }

    private static String ofAll() {
        return section("What it is") + " " + section("Terms");
    }

    private static String ofPromise(int promise) {
        return section("Promise " + promise);
    }

    private static String section(String name) {
        return SECTIONS.getOrDefault(name, "");
    }

    /** By heading (of a promise: its number alone), without the methods' heads, each in one line. */
    private static Map<String, String> sections() {
        Map<String, String> found = new TreeMap<>();
        for (String part : read().split("(?m)^## ")) {
            int end = part.indexOf('\n');
            if (end > 0) {
                String name = part.substring(0, end).replaceAll("^(Promise \\d+):.*", "$1");
                String text = part.substring(end).replaceAll("(?m)^`[^`]*`: ", "").replaceAll("\\s+", " ");
                found.put(name, text.trim());
            }
        }
        return found;
    }

    private static String read() {
        try {
            return Files.readString(FILE);
        } catch (IOException e) {
            return "";
        }
    }
}
