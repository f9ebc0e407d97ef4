import java.util.ArrayList;
import java.util.List;
import java.util.function.LongSupplier;

/**
 * A warehouse in which much is told, so that a refused call that changed anything would show: each refusal is asked of
 * one of two such objects, and both must answer alike from then on.
 */
final class Warehouse {
    static final int TODAY = 45;
    static final int CLOSED_AHEAD = 50;

    private static final int[] ROOMS = {100, 60, 500, 200, 1000, 1000, 1000, 1000, 300, 1000, 1000, 1000, 1000, 1, 50,
        1000};
    private static final int[] ZONES = {0, 1, 3, 2, 2, 0, 0, 0, 0, 3, 1, 2, 0, 0, 0, 0};
    private static final int[] GOODS = {1, 2, 1, 0, 5, 0, 0, 0, 1, 1, 2, 2, 0, 0, 7, 6};
    private static final int[] FACES = {0, 1, 2, 3, 4, 15};
    /** Day, then what is used on it of the faces 0 to 3; day 30 is closed. */
    private static final int[][] USES = {{20, 10, 8, 0, 0}, {30, 20, 0, 0, 0}, {40, 15, 16, 0, 0}, {44, 30, 24, 1, 6},
        {TODAY, 2, 0, 0, 5}};

    interface Call {
        void on(ReplenishRules x);
    }

    interface CallOf {
        void on(ReplenishRules x, int n);
    }

    private Warehouse() {
    }

    /**
     * Faces 0 (18 pieces, good 1), 1 (52 of 60, good 2), 2 (99, good 1), 3 (9, of them 4 held, good 0), 4 (none, good
     * 5), 15 (3, good 6); reserves 8 (25, of them 5 held, good 1), 9 (70, good 1), 10 (none any more), 11 (15, all
     * held, good 2), 12 (33, good 0), 14 (50 of 50, good 7); 5, 6, 7 and 13 are empty. 28 waves are told. Five moves
     * are planned: 10 to 1 (40, done), 8 to 0 (20), 9 to 0 (46), 12 to 3 (33), 9 to 2 (24).
     */
    static ReplenishRules made() {
        ReplenishRules x = new ReplenishRules();
        for (int place = 0; place < 16; place++) {
            x.place(place, ROOMS[place], ZONES[place]);
        }
        tellRules(x);
        tellPieces(x);
        for (int[] use : USES) {
            x.day(use[0]);
            for (int face = 0; face < 4; face++) {
                if (use[face + 1] > 0) {
                    x.use(face, use[face + 1]);
                }
            }
        }
        x.hold(3, 4);
        x.hold(8, 5);
        x.hold(11, 15);
        for (int i = 0; i < 28; i++) {
            x.wave(i % 4, 40 - i, TODAY + i);
        }
        x.run();
        x.done(0);
        return x;
    }

    private static void tellRules(ReplenishRules x) {
        x.cases(1, 6);
        x.cases(2, 10);
        x.rule(0, 1, 3, 100);
        x.rule(1, 2, 5, TODAY);
        x.rule(2, 0, 7, 399);
        x.rule(3, 1, 30, 60);
        x.factor(1, 3, 2);
        x.factor(2, 5, 4);
        x.open(30, false);
        x.open(42, false);
        x.open(CLOSED_AHEAD, false);
    }

    private static void tellPieces(ReplenishRules x) {
        x.face(0, 1, 30, 80);
        x.face(1, 2, 20, 50);
        x.face(2, 1, 40, 90);
        x.face(3, 0, 10, 40);
        x.face(4, 5, 0, 0);
        x.face(15, 6, 0, 0);
        int[][] pieces = {{0, 95}, {1, 60}, {2, 100}, {3, 20}, {8, 25}, {9, 70}, {10, 40}, {11, 15}, {12, 33}, {14, 50},
            {15, 3}};
        for (int[] p : pieces) {
            x.put(p[0], GOODS[p[0]], p[1]);
        }
    }

    static void refused(String call, Class<?> want, Call run) {
        refused(call, want, x -> { }, run);
    }

    /** What comes before is told to both objects, the refused call to one of them. */
    static void refused(String call, Class<?> want, Call before, Call run) {
        ReplenishRules x = made();
        ReplenishRules spared = made();
        before.on(x);
        before.on(spared);
        Check.refused(call, want, () -> run.on(x));
        Check.alsoRefusedChangesNothing();
        List<String> got = answers(x);
        List<String> due = answers(spared);
        for (int i = 0; i < due.size(); i++) {
            if (!got.get(i).equals(due.get(i))) {
                Check.fail(call + " has changed something: " + got.get(i) + ", due is: " + due.get(i));
                return;
            }
        }
    }

    static void taken(String call, Call run) {
        ReplenishRules x = made();
        Check.taken(call, () -> run.on(x));
    }

    static void range(String call, int lowest, int highest, CallOf run) {
        outside(call, lowest, highest, run);
        ends(call, lowest, highest, run);
    }

    /** The numbers just outside a range, and the farthest ones, are refused. */
    static void outside(String call, int lowest, int highest, CallOf run) {
        int[] outside = {lowest - 1, highest + 1, Integer.MIN_VALUE, Integer.MAX_VALUE};
        for (int n : outside) {
            refused(call + ", n = " + n, Check.ARGUMENT, x -> run.on(x, n));
        }
    }

    static void ends(String call, int lowest, int highest, CallOf run) {
        int[] ends = {lowest, highest};
        for (int n : ends) {
            taken(call + ", n = " + n, x -> run.on(x, n));
        }
    }

    /** Whatever can be asked, then what calls that change something answer: with all before, fewer than 512 calls. */
    private static List<String> answers(ReplenishRules x) {
        List<String> all = new ArrayList<>();
        for (int place = 0; place < 16; place++) {
            for (int what = 0; what < 6; what++) {
                int p = place;
                int w = what;
                note(all, "told(" + p + ", " + w + ")", () -> x.told(p, w));
            }
        }
        noteMoves(all, x);
        noteFaces(all, x);
        note(all, "open(" + TODAY + ", true)", x, y -> y.open(TODAY, true));
        note(all, "run()", () -> x.run());
        noteMoves(all, x);
        noteDone(all, x);
        noteRooms(all, x);
        noteDays(all, x);
        return all;
    }

    private static void note(List<String> all, String call, LongSupplier run) {
        String answer;
        try {
            answer = " answers " + run.getAsLong();
        } catch (RuntimeException e) {
            answer = " throws " + e.getClass().getSimpleName();
        }
        all.add(call + answer);
    }

    private static void note(List<String> all, String call, ReplenishRules x, Call run) {
        note(all, call, () -> {
            run.on(x);
            return 0;
        });
    }

    private static void noteMoves(List<String> all, ReplenishRules x) {
        for (int move = 0; move < 6; move++) {
            for (int what = 0; what < 7; what++) {
                int i = move;
                int w = what;
                note(all, "move(" + i + ", " + w + ")", () -> x.move(i, w));
            }
        }
    }

    private static void noteFaces(List<String> all, ReplenishRules x) {
        for (int f : FACES) {
            note(all, "forecast(" + f + ")", () -> x.forecast(f));
            note(all, "threshold(" + f + ")", () -> x.threshold(f));
            note(all, "above(" + f + ")", () -> x.above(f) ? 1 : 0);
            note(all, "mean(" + f + ", 1)", () -> x.mean(f, 1));
            note(all, "mean(" + f + ", 25)", () -> x.mean(f, 25));
        }
    }

    private static void noteDone(List<String> all, ReplenishRules x) {
        for (int move = 0; move < 6; move++) {
            int i = move;
            note(all, "done(" + i + ")", x, y -> y.done(i));
            note(all, "told(" + i + ", 0)", () -> x.told(i, 0));
        }
        for (int n = 1; n < 4; n++) {
            int more = n;
            note(all, "wave(0, " + n + ", " + TODAY + ")", x, y -> y.wave(0, more, TODAY));
        }
    }

    private static void noteRooms(List<String> all, ReplenishRules x) {
        for (int place = 0; place < 16; place++) {
            int p = place;
            int space = ROOMS[p] - x.told(p, 0);
            note(all, "put(" + p + ") of one too many", x, y -> y.put(p, GOODS[p], space + 1));
            note(all, "put(" + p + ") of what fits", x, y -> y.put(p, GOODS[p], space));
        }
    }

    private static void noteDays(List<String> all, ReplenishRules x) {
        int[] days = {TODAY + 1, CLOSED_AHEAD, 61};
        for (int day : days) {
            note(all, "use(0, 7)", x, y -> y.use(0, 7));
            note(all, "day(" + day + ")", x, y -> y.day(day));
            noteFaces(all, x);
            note(all, "run()", () -> x.run());
        }
    }
}
