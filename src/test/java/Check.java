/** What the project's tests share: it counts the answers that are not the ones that are due. */
final class Check {
    static final Class<?> ARGUMENT = IllegalArgumentException.class;
    static final Class<?> STATE = IllegalStateException.class;
    static final Class<?> NO_ROOM = UnsupportedOperationException.class;
    static final Class<?> NO_ELEMENT = java.util.NoSuchElementException.class;
    static final Class<?> ARITHMETIC = ArithmeticException.class;

    private static int wrong = 0;

    private Check() {
    }

    static void due(String call, long got, long want) {
        if (got != want) {
            wrong++;
            System.out.println(call + " answered " + got + ", due is " + want);
        }
    }

    static void due(String call, boolean got, boolean want) {
        due(call, got ? 1 : 0, want ? 1 : 0);
    }

    /** The very class is due: a subclass would be the machine's own. */
    static void refused(String call, Class<?> want, Runnable run) {
        Class<?> got = null;
        try {
            run.run();
        } catch (RuntimeException e) {
            got = e.getClass();
        }
        if (got != want) {
            wrong++;
            System.out.println(call + " threw " + got + ", due is " + want);
        }
    }

    static void taken(String call, Runnable run) {
        refused(call, null, run);
    }

    static void pieces(ReplenishRules x, int place, int want) {
        due("told(" + place + ", 0)", x.told(place, 0), want);
    }

    /** A planned move: from, to, how many, need time, trip, whether it empties the reserve. */
    static void move(ReplenishRules x, int i, int... want) {
        for (int what = 0; what < want.length; what++) {
            due("move(" + i + ", " + what + ")", x.move(i, what), want[what]);
        }
    }

    static void finish() {
        if (wrong != 0) {
            System.out.println(wrong + " answers are not as due");
            System.exit(1);
        }
    }
}
