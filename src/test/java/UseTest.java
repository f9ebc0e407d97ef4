/** Promise 5: use. */
public final class UseTest {
    public static void main(String[] args) {
        ranges();
        takesPiecesToday();
        noFace();
        heldPiecesStay();
        Check.finish();
    }

    private static void ranges() {
        ReplenishRules x = new ReplenishRules();
        x.place(15, 100000, 0);
        x.face(15, 0, 0, 0);
        x.put(15, 0, 100000);
        int[][] wrong = {{-1, 1}, {16, 1}, {15, 0}, {15, -1}, {15, 100001}, {15, Integer.MAX_VALUE}, {0, 0}};
        for (int[] w : wrong) {
            Check.refused("use" + java.util.Arrays.toString(w), Check.ARGUMENT, () -> x.use(w[0], w[1]));
        }
        Check.taken("use(15, 100000)", () -> x.use(15, 100000));
        Check.due("no good is left", x.told(15, 2), -1);
        Check.due("it is a face still", x.told(15, 3), 1);
    }

    private static void takesPiecesToday() {
        ReplenishRules x = new ReplenishRules();
        x.face(3, 2, 0, 10);
        x.put(3, 2, 10);
        x.day(5);
        x.use(3, 4);
        x.use(3, 2);
        Check.pieces(x, 3, 4);
        Check.due("the good stays", x.told(3, 2), 2);
        Check.due("today is not before today", x.mean(3, 5), 0);
        x.day(6);
        Check.due("used on day 5", x.mean(3, 1), 6);
        x.day(7);
        Check.due("not used on day 6", x.mean(3, 1), 0);
    }

    private static void noFace() {
        ReplenishRules x = new ReplenishRules();
        x.put(0, 0, 10);
        Check.refused("use of a reserve", Check.STATE, () -> x.use(0, 1));
        Check.pieces(x, 0, 10);
        x.face(0, 0, 0, 5);
        Check.refused("more than there is", Check.STATE, () -> x.use(0, 11));
        x.day(1);
        Check.due("a refused use is not counted", x.mean(0, 1), 0);
        Check.taken("all there is", () -> x.use(0, 10));
    }

    private static void heldPiecesStay() {
        ReplenishRules x = new ReplenishRules();
        x.face(0, 0, 0, 5);
        x.put(0, 0, 10);
        x.hold(0, 4);
        Check.refused("held ones", Check.STATE, () -> x.use(0, 7));
        Check.taken("all that are not held", () -> x.use(0, 6));
        Check.pieces(x, 0, 4);
        Check.due("held", x.told(0, 1), 4);
        Check.refused("nothing is free", Check.STATE, () -> x.use(0, 1));
    }
}
