/** Promise 2: place. */
public final class PlaceTest {
    public static void main(String[] args) {
        ranges();
        room();
        piecesAndMostBound();
        zone();
        refusedChangesNothing();
        Check.finish();
    }

    private static void ranges() {
        ReplenishRules x = new ReplenishRules();
        Check.taken("place(0, 1, 0)", () -> x.place(0, 1, 0));
        Check.taken("place(15, 100000, 3)", () -> x.place(15, 100000, 3));
        int[][] wrong = {{-1, 1, 0}, {16, 1, 0}, {0, 0, 0}, {0, 100001, 0}, {0, 1, -1}, {0, 1, 4},
            {Integer.MIN_VALUE, 1, 0}, {Integer.MAX_VALUE, 1, 0}, {0, -1, 0}, {0, Integer.MAX_VALUE, 0}};
        for (int[] w : wrong) {
            Check.refused("place" + java.util.Arrays.toString(w), Check.ARGUMENT, () -> x.place(w[0], w[1], w[2]));
        }
    }

    private static void room() {
        ReplenishRules x = new ReplenishRules();
        x.place(2, 100000, 1);
        Check.refused("put of 100000 and 1", Check.NO_ROOM, () -> {
            x.put(2, 0, 100000);
            x.put(2, 0, 1);
        });
        Check.pieces(x, 2, 100000);
    }

    private static void piecesAndMostBound() {
        ReplenishRules x = new ReplenishRules();
        x.put(1, 0, 50);
        Check.refused("place below the pieces", Check.STATE, () -> x.place(1, 49, 0));
        Check.taken("place at the pieces", () -> x.place(1, 50, 0));
        x.face(2, 0, 0, 80);
        Check.refused("place below the most", Check.STATE, () -> x.place(2, 79, 0));
        Check.taken("place at the most", () -> x.place(2, 80, 0));
        Check.refused("a wrong zone comes first", Check.ARGUMENT, () -> x.place(2, 79, 4));
        Check.refused("a wrong room comes first", Check.ARGUMENT, () -> x.place(2, 0, 0));
    }

    private static void zone() {
        ReplenishRules x = new ReplenishRules();
        x.rule(3, 1, 2, 399);
        x.face(0, 0, 0, 10);
        x.put(0, 0, 10);
        x.use(0, 4);
        x.day(1);
        Check.due("forecast in zone 0", x.forecast(0), 0);
        x.place(0, 1000, 3);
        Check.due("forecast in zone 3", x.forecast(0), 8);
        x.put(0, 0, 4);
        Check.pieces(x, 0, 10);
        Check.due("most stays", x.told(0, 5), 10);
    }

    private static void refusedChangesNothing() {
        ReplenishRules x = new ReplenishRules();
        x.rule(1, 1, 1, 399);
        x.face(0, 0, 0, 10);
        x.put(0, 0, 9);
        Check.refused("place(0, 9, 1)", Check.STATE, () -> x.place(0, 9, 1));
        x.use(0, 1);
        x.day(1);
        Check.due("zone stays", x.forecast(0), 0);
        Check.taken("room stays", () -> x.put(0, 0, 992));
    }
}
