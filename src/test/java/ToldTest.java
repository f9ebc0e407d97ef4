/** Promise 20: told. */
public final class ToldTest {
    public static void main(String[] args) {
        ReplenishRules x = new ReplenishRules();
        int[][] wrong = {{-1, 0}, {16, 0}, {0, -1}, {0, 6}, {Integer.MIN_VALUE, 0}, {0, Integer.MAX_VALUE}};
        for (int[] w : wrong) {
            Check.refused("told" + java.util.Arrays.toString(w), Check.ARGUMENT, () -> x.told(w[0], w[1]));
        }
        x.put(15, 0, 44);
        x.hold(15, 4);
        told(x, 15, 44, 4, 0, 0, 0, 0);
        x.face(15, 0, 3, 9);
        told(x, 15, 44, 4, 0, 1, 3, 9);
        x.hold(15, 0);
        x.use(15, 44);
        told(x, 15, 0, 0, -1, 1, 3, 9);
        x.face(0, 7, 0, 0);
        told(x, 0, 0, 0, -1, 1, 0, 0);
        told(x, 1, 0, 0, -1, 0, 0, 0);
        Check.finish();
    }

    private static void told(ReplenishRules x, int place, int... want) {
        for (int what = 0; what < want.length; what++) {
            Check.due("told(" + place + ", " + what + ")", x.told(place, what), want[what]);
        }
    }
}
