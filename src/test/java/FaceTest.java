/** Promise 3: face. */
public final class FaceTest {
    public static void main(String[] args) {
        ranges();
        toldAnew();
        holdsAnother();
        usedAndWavesCountOn();
        refusedChangesNothing();
        Check.finish();
    }

    private static void ranges() {
        ReplenishRules x = new ReplenishRules();
        Check.taken("face(0, 0, 0, 0)", () -> x.face(0, 0, 0, 0));
        Check.taken("face(15, 7, 1000, 1000)", () -> x.face(15, 7, 1000, 1000));
        int[][] wrong = {{-1, 0, 0, 0}, {16, 0, 0, 0}, {1, -1, 0, 0}, {1, 8, 0, 0}, {1, 0, -1, 0}, {1, 0, -1, -1},
            {1, 0, 6, 5}, {1, 0, 0, 1001}, {1, 0, 1001, 1001}, {1, 0, Integer.MAX_VALUE, Integer.MIN_VALUE}};
        for (int[] w : wrong) {
            Check.refused("face" + java.util.Arrays.toString(w), Check.ARGUMENT,
                () -> x.face(w[0], w[1], w[2], w[3]));
        }
        Check.due("a refused face is none", x.told(1, 3), 0);
        x.place(1, 20, 0);
        Check.refused("most above the room", Check.ARGUMENT, () -> x.face(1, 0, 0, 21));
        Check.taken("most at the room", () -> x.face(1, 0, 20, 20));
    }

    private static void toldAnew() {
        ReplenishRules x = new ReplenishRules();
        x.face(4, 3, 5, 50);
        x.put(4, 3, 7);
        x.face(4, 3, 6, 60);
        Check.due("face", x.told(4, 3), 1);
        Check.due("least", x.told(4, 4), 6);
        Check.due("most", x.told(4, 5), 60);
        Check.pieces(x, 4, 7);
        x.face(4, 3, 0, 1);
        Check.due("most below the pieces", x.told(4, 5), 1);
        Check.pieces(x, 4, 7);
    }

    private static void holdsAnother() {
        ReplenishRules x = new ReplenishRules();
        x.put(4, 3, 7);
        Check.refused("face for another good", Check.STATE, () -> x.face(4, 2, 0, 5));
        Check.refused("a wrong least comes first", Check.ARGUMENT, () -> x.face(4, 2, 6, 5));
        Check.refused("a most above the room comes first", Check.ARGUMENT, () -> x.face(4, 2, 0, 1001));
        x.face(4, 3, 0, 5);
        Check.refused("another good while it holds one", Check.STATE, () -> x.face(4, 2, 0, 5));
        x.use(4, 7);
        Check.taken("another good when it is empty", () -> x.face(4, 2, 0, 5));
        Check.refused("put of the first good", Check.STATE, () -> x.put(4, 3, 1));
    }

    private static void usedAndWavesCountOn() {
        ReplenishRules x = new ReplenishRules();
        x.face(0, 1, 0, 100);
        x.put(0, 1, 30);
        x.use(0, 30);
        x.wave(0, 44, 1);
        x.face(0, 2, 0, 90);
        x.rule(0, 1, 2, 399);
        x.day(1);
        Check.due("forecast counts what was used of the place", x.forecast(0), 60);
        Check.due("mean counts what was used of the place", x.mean(0, 1), 30);
        x.rule(0, 0, 1, 399);
        Check.due("waves count on", x.threshold(0), 44);
    }

    private static void refusedChangesNothing() {
        ReplenishRules x = new ReplenishRules();
        x.face(0, 1, 2, 3);
        x.put(0, 1, 1);
        Check.refused("face for another good", Check.STATE, () -> x.face(0, 2, 5, 6));
        Check.refused("face with a wrong most", Check.ARGUMENT, () -> x.face(0, 1, 5, 1001));
        Check.due("least stays", x.told(0, 4), 2);
        Check.due("most stays", x.told(0, 5), 3);
        Check.taken("good stays", () -> x.put(0, 1, 1));
    }
}
