/** Promise 4: put. */
public final class PutTest {
    public static void main(String[] args) {
        ranges();
        comes();
        anotherGood();
        noRoom();
        Check.finish();
    }

    private static void ranges() {
        ReplenishRules x = new ReplenishRules();
        x.place(15, 100000, 0);
        Check.taken("put(0, 0, 1)", () -> x.put(0, 0, 1));
        Check.taken("put(15, 7, 100000)", () -> x.put(15, 7, 100000));
        int[][] wrong = {{-1, 0, 1}, {16, 0, 1}, {0, -1, 1}, {0, 8, 1}, {0, 0, 0}, {0, 0, -1}, {0, 0, 100001},
            {0, 0, Integer.MAX_VALUE}, {0, 0, Integer.MIN_VALUE}};
        for (int[] w : wrong) {
            Check.refused("put" + java.util.Arrays.toString(w), Check.ARGUMENT, () -> x.put(w[0], w[1], w[2]));
        }
        Check.pieces(x, 0, 1);
    }

    private static void comes() {
        ReplenishRules x = new ReplenishRules();
        x.put(6, 5, 12);
        x.put(6, 5, 30);
        Check.pieces(x, 6, 42);
        Check.due("good", x.told(6, 2), 5);
        x.hold(6, 10);
        x.put(6, 5, 1);
        Check.due("held stays", x.told(6, 1), 10);
    }

    private static void anotherGood() {
        ReplenishRules x = new ReplenishRules();
        x.put(0, 1, 5);
        Check.refused("holds another", Check.STATE, () -> x.put(0, 2, 1));
        Check.refused("holds another, before no room", Check.STATE, () -> x.put(0, 2, 1000));
        Check.refused("a wrong number comes first", Check.ARGUMENT, () -> x.put(0, 2, 0));
        x.face(1, 4, 0, 10);
        Check.refused("face of another", Check.STATE, () -> x.put(1, 3, 1));
        Check.due("nothing has come", x.told(1, 2), -1);
        Check.taken("the face's good", () -> x.put(1, 4, 1));
        Check.pieces(x, 0, 5);
        Check.due("the good stays", x.told(0, 2), 1);
    }

    private static void noRoom() {
        ReplenishRules x = new ReplenishRules();
        x.place(0, 10, 0);
        Check.refused("11 into 10", Check.NO_ROOM, () -> x.put(0, 1, 11));
        Check.due("no good has come", x.told(0, 2), -1);
        x.put(0, 1, 9);
        Check.refused("2 into 1", Check.NO_ROOM, () -> x.put(0, 1, 2));
        Check.pieces(x, 0, 9);
        Check.taken("1 into 1", () -> x.put(0, 1, 1));
        Check.refused("1 into 0", Check.NO_ROOM, () -> x.put(0, 1, 1));
        x.face(2, 1, 0, 10);
        Check.taken("above the most, within the room", () -> x.put(2, 1, 1000));
    }
}
