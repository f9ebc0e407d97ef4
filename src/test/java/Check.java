import java.util.Map;
import java.util.Set;
import java.util.TreeMap;
import java.util.TreeSet;

/** What the project's tests share: it counts the answers that are not the ones that are due. */
final class Check {
    static final Class<?> ARGUMENT = IllegalArgumentException.class;
    static final Class<?> STATE = IllegalStateException.class;
    static final Class<?> NO_ROOM = UnsupportedOperationException.class;
    static final Class<?> NO_ELEMENT = java.util.NoSuchElementException.class;
    static final Class<?> ARITHMETIC = ArithmeticException.class;

    private static final Map<Integer, Set<String>> SAID = new TreeMap<>();
    private static String where = "";
    private static int promiseNow = 0;
    private static int wrong = 0;

    private Check() {
    }

    /** Names the promise, and the sentence of the document, that the checks behind it are for. */
    static void says(int promise, String sentence) {
        promiseNow = promise;
        where = "promise " + promise + ", \"" + sentence + "\": ";
        SAID.computeIfAbsent(promise, p -> new TreeSet<>()).add(sentence);
        if (!Document.says(promise, sentence)) {
            fail("the document does not say so");
        }
    }

    /** What is checked from here on is of no sentence. */
    static void saysNoMore() {
        where = "";
    }

    static void refusalsInOrder(int promise) {
        says(promise, "REFUSALS, the first that holds: NoSuchElementException: a move that there is not; "
            + "IllegalArgumentException: another number outside its range; IllegalStateException: not as it is now; "
            + "UnsupportedOperationException: no room.");
    }

    /** What a refused call has changed is looked at beside the sentence that refuses it. */
    static void alsoRefusedChangesNothing() {
        String sentence = "What is refused changes nothing.";
        SAID.computeIfAbsent(promiseNow, p -> new TreeSet<>()).add(sentence);
    }

    static Map<Integer, Set<String>> said() {
        return SAID;
    }

    static void fail(String text) {
        wrong++;
        System.out.println(where + text);
    }

    static void due(String call, long got, long want) {
        if (got != want) {
            fail(call + " answered " + got + ", due is " + want);
        }
    }

    static void due(String call, boolean got, boolean want) {
        due(call, got ? 1 : 0, want ? 1 : 0);
    }

    /** The very class is due, thrown by the code: a subclass, or a division by zero, would be the machine's own. */
    static void refused(String call, Class<?> want, Runnable run) {
        Class<?> got = null;
        try {
            run.run();
        } catch (RuntimeException e) {
            got = e.getClass();
            if ("/ by zero".equals(e.getMessage())) {
                fail(call + " lets the machine throw");
            }
        }
        if (got != want) {
            fail(call + " threw " + got + ", due is " + want);
        }
    }

    static void taken(String call, Runnable run) {
        refused(call, null, run);
    }

    static void pieces(ReplenishRules x, int place, int want) {
        told(x, place, want);
    }

    /** Of a place: pieces, held ones, the good, whether it is a face, its least, its most. */
    static void told(ReplenishRules x, int place, int... want) {
        for (int what = 0; what < want.length; what++) {
            due("told(" + place + ", " + what + ")", x.told(place, what), want[what]);
        }
    }

    /** Of a planned move: from, to, how many, need time, trip, whether it empties the reserve, whether it is done. */
    static void move(ReplenishRules x, int i, int... want) {
        for (int what = 0; what < want.length; what++) {
            due("move(" + i + ", " + what + ")", x.move(i, what), want[what]);
        }
    }

    /** A run that is due to plan one move, of so many pieces; none if they are 0. */
    static void runPlans(String call, ReplenishRules x, int pieces) {
        int moves = x.run();
        due(call + ": moves", moves, pieces == 0 ? 0 : 1);
        if (moves > 0) {
            due(call + ": pieces", x.move(0, 2), pieces);
        }
    }

    static void finish() {
        if (wrong != 0) {
            System.out.println(wrong + " answers are not as due");
            System.exit(1);
        }
    }
}
