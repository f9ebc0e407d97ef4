import java.util.Arrays;
import java.util.Map;
import java.util.Random;
import java.util.TreeMap;

/**
 * Long runs of calls, made from fixed seeds, on an object, on the Model, and on a second object that is spared every
 * call that is refused: all three must answer alike, so what is refused has changed nothing.
 */
public final class ModelTest {
    private static final int RUNS = 1000;
    private static final int CALLS = 512;
    private static final String[] ALL = {"place", "face", "put", "use", "hold", "cases", "rule", "factor", "wave",
        "open", "day", "mean", "forecast", "threshold", "above", "run", "move", "done", "told"};
    private static final String[] OFTEN = {"face", "put", "put", "use", "use", "use", "day", "run", "run", "move",
        "move", "move", "move", "done", "done", "wave", "forecast", "threshold", "above"};

    private static int wrong = 0;
    private static final Map<String, Integer> seen = new TreeMap<>();

    private final Random random;
    private final int placesUsed;
    private final int goodsUsed;
    private final int mostUsed;
    private int today = 0;

    private ModelTest(int seed) {
        random = new Random(seed);
        placesUsed = random.nextBoolean() ? 16 : 6;
        goodsUsed = 1 + random.nextInt(3);
        mostUsed = new int[] {20, 200, 1200, 3000}[random.nextInt(4)];
    }

    public static void main(String[] args) {
        for (int seed = 0; seed < RUNS && wrong == 0; seed++) {
            new ModelTest(seed).play(seed);
        }
        everyOutcomeIsSeen();
        if (wrong != 0) {
            System.exit(1);
        }
    }

    private void play(int seed) {
        ReplenishRules x = new ReplenishRules();
        ReplenishRules spared = new ReplenishRules();
        Model model = new Model();
        for (int i = 0; i < CALLS && wrong == 0; i++) {
            String call = random.nextInt(3) == 0 ? ALL[random.nextInt(ALL.length)]
                : OFTEN[random.nextInt(OFTEN.length)];
            int[] a = arguments(call);
            String want = ofModel(model, call, a);
            String where = "run " + seed + ", call " + i + ": " + call + Arrays.toString(a);
            compare(where, ofClass(x, call, a), want);
            boolean refused = want.startsWith("throws");
            if (!refused) {
                compare(where + " of the spared object", ofClass(spared, call, a), want);
            }
            if (call.equals("day") && !refused) {
                today = a[0];
            }
            seen.merge(call + (refused ? " " + want : ""), 1, Integer::sum);
            if (call.equals("move") && !refused && a[1] == 4 && Integer.parseInt(want) > 1) {
                seen.merge("move of a later trip", 1, Integer::sum);
            }
        }
    }

    private static void compare(String call, String got, String want) {
        if (!got.equals(want)) {
            wrong++;
            System.out.println(call + " answered " + got + ", due is " + want);
        }
    }

    private static String ofModel(Model model, String call, int[] a) {
        try {
            return "" + model.answer(call, a);
        } catch (Model.Refusal e) {
            return "throws." + e.getMessage();
        }
    }

    private static String ofClass(ReplenishRules x, String call, int[] a) {
        try {
            return "" + answer(x, call, a);
        } catch (RuntimeException e) {
            boolean ofMachine = "/ by zero".equals(e.getMessage());
            return (ofMachine ? "the machine throws." : "throws.") + e.getClass().getSimpleName();
        }
    }

    private static long answer(ReplenishRules x, String call, int[] a) {
        switch (call) {
            case "place": x.place(a[0], a[1], a[2]); return 0;
            case "face": x.face(a[0], a[1], a[2], a[3]); return 0;
            case "put": x.put(a[0], a[1], a[2]); return 0;
            case "use": x.use(a[0], a[1]); return 0;
            case "hold": x.hold(a[0], a[1]); return 0;
            case "cases": x.cases(a[0], a[1]); return 0;
            case "rule": x.rule(a[0], a[1], a[2], a[3]); return 0;
            case "factor": x.factor(a[0], a[1], a[2]); return 0;
            case "wave": x.wave(a[0], a[1], a[2]); return 0;
            case "open": x.open(a[0], a[1] == 1); return 0;
            case "day": x.day(a[0]); return 0;
            case "mean": return x.mean(a[0], a[1]);
            case "forecast": return x.forecast(a[0]);
            case "threshold": return x.threshold(a[0]);
            case "above": return x.above(a[0]) ? 1 : 0;
            case "run": return x.run();
            case "move": return x.move(a[0], a[1]);
            case "done": x.done(a[0]); return 0;
            case "told": return x.told(a[0], a[1]);
            default: throw new AssertionError(call);
        }
    }

    private int[] arguments(String call) {
        switch (call) {
            case "place": return new int[] {place(), n(1, mostUsed * 2, 100000), n(0, 3, 3)};
            case "face": return face();
            case "put": return new int[] {place(), good(), n(1, mostUsed, 100000)};
            case "use": return new int[] {facePlace(), n(1, mostUsed / 8, 100000)};
            case "hold": return new int[] {place(), n(0, mostUsed / 4, 100000)};
            case "cases": return new int[] {good(), n(1, 24, 1000)};
            case "rule": return new int[] {n(0, 3, 3), n(0, 2, 2), n(1, 6, 30), n(today - 2, today + 40, 399)};
            case "factor": return new int[] {n(0, 11, 11), n(0, 5, 1000), n(1, 5, 1000)};
            case "wave": return new int[] {facePlace(), n(1, mostUsed, 100000), n(today - 1, today + 6, 399)};
            case "open": return new int[] {n(today - 1, today + 3, 399), random.nextInt(2)};
            case "day": return new int[] {n(today, random.nextInt(8) == 0 ? today + 20 : today + 2, 399)};
            case "mean": return new int[] {facePlace(), n(0, 9, 60)};
            case "move": return new int[] {n(0, random.nextInt(12), 15), n(0, 6, 6)};
            case "done": return new int[] {n(0, 3, 15)};
            case "told": return new int[] {place(), n(0, 5, 5)};
            case "run": return new int[0];
            default: return new int[] {facePlace()};
        }
    }

    private int[] face() {
        int least = n(0, mostUsed / 2, 1000);
        int more = random.nextInt(mostUsed);
        return new int[] {facePlace(), good(), least, random.nextInt(30) == 0 ? n(0, 9, 9) : least + more};
    }

    private int place() {
        return n(0, placesUsed - 1, 15);
    }

    /** Faces are told among the first places, so that reserves are left. */
    private int facePlace() {
        return random.nextInt(20) == 0 ? place() : n(0, placesUsed / 3, 15);
    }

    private int good() {
        return n(0, goodsUsed - 1, 7);
    }

    /** Mostly a number from low to high; at times the end of the range, one outside it, or a far one. */
    private int n(int low, int high, int end) {
        int kind = random.nextInt(60);
        if (kind == 0) {
            return new int[] {-1, end + 1, Integer.MIN_VALUE, Integer.MAX_VALUE}[random.nextInt(4)];
        }
        if (kind == 1) {
            return random.nextBoolean() ? end : 0;
        }
        return low + random.nextInt(Math.max(1, high - low + 1));
    }

    /** Runs that never reach a refusal, or an answer, would test nothing of it. */
    private static void everyOutcomeIsSeen() {
        String a = " throws.IllegalArgumentException";
        String s = " throws.IllegalStateException";
        String u = " throws.UnsupportedOperationException";
        String e = " throws.NoSuchElementException";
        String[] due = {"place" + a, "place" + s, "face" + a, "face" + s, "put" + a, "put" + s, "put" + u, "use" + a,
            "use" + s, "hold" + a, "hold" + s, "cases" + a, "rule" + a, "factor" + a, "wave" + a, "wave" + s,
            "wave" + u, "open" + a, "open" + s, "day" + a, "mean" + a, "mean" + s, "mean throws.ArithmeticException",
            "forecast" + a, "forecast" + s, "threshold" + a, "threshold" + s, "above" + a, "above" + s, "run" + s,
            "move" + e, "move" + a, "done" + e, "done" + s, "done" + u, "told" + a, "move of a later trip"};
        for (String outcome : due) {
            compare("whether was seen: " + outcome, "" + seen.containsKey(outcome), "true");
        }
        for (String call : ALL) {
            compare("whether was answered: " + call, "" + seen.containsKey(call), "true");
        }
        if (Boolean.getBoolean("show")) {
            seen.forEach((k, n) -> System.out.println(k + ": " + n));
        }
    }
}
