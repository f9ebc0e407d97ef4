/** Promise 10: wave. */
public final class WaveTest {
    public static void main(String[] args) {
        ranges();
        days();
        noFace();
        thirtyAreTold();
        byFace();
        Check.finish();
    }

    private static void ranges() {
        ReplenishRules x = new ReplenishRules();
        x.place(15, 100000, 0);
        x.face(15, 0, 0, 0);
        Check.taken("wave(15, 1, 0)", () -> x.wave(15, 1, 0));
        Check.taken("wave(15, 100000, 399)", () -> x.wave(15, 100000, 399));
        int[][] wrong = {{-1, 1, 0}, {16, 1, 0}, {15, 0, 0}, {15, -1, 0}, {15, 100001, 0}, {15, 1, -1}, {15, 1, 400}};
        for (int[] w : wrong) {
            Check.refused("wave" + java.util.Arrays.toString(w), Check.ARGUMENT, () -> x.wave(w[0], w[1], w[2]));
        }
        Check.due("what is refused changes nothing", x.threshold(15), 1);
    }

    private static void days() {
        ReplenishRules x = new ReplenishRules();
        x.face(0, 0, 0, 0);
        x.day(10);
        Check.refused("a day before today", Check.ARGUMENT, () -> x.wave(0, 5, 9));
        Check.taken("today", () -> x.wave(0, 5, 10));
        Check.taken("tomorrow", () -> x.wave(0, 7, 11));
        Check.taken("the day behind it", () -> x.wave(0, 90, 12));
        Check.due("today and one day ahead", x.threshold(0), 12);
        x.open(11, false);
        Check.due("a closed day's wave counts", x.threshold(0), 12);
        x.day(11);
        Check.due("a day later", x.threshold(0), 97);
        x.day(12);
        Check.due("two days later", x.threshold(0), 90);
        x.day(13);
        Check.due("behind them all", x.threshold(0), 0);
    }

    private static void noFace() {
        ReplenishRules x = new ReplenishRules();
        x.day(1);
        Check.refused("no face", Check.STATE, () -> x.wave(0, 1, 1));
        Check.refused("a wrong number comes first", Check.ARGUMENT, () -> x.wave(0, 0, 1));
        Check.refused("a day before today comes first", Check.ARGUMENT, () -> x.wave(0, 1, 0));
        x.face(0, 0, 0, 0);
        Check.due("a refused wave needs nothing", x.threshold(0), 0);
    }

    private static void thirtyAreTold() {
        ReplenishRules x = new ReplenishRules();
        x.face(0, 0, 0, 0);
        x.face(1, 0, 0, 0);
        for (int i = 0; i < 30; i++) {
            int place = i % 2;
            Check.taken("wave " + i, () -> x.wave(place, 1, 1));
        }
        Check.refused("the 31st", Check.NO_ROOM, () -> x.wave(0, 1, 1));
        Check.refused("no face comes first", Check.STATE, () -> x.wave(2, 1, 1));
        Check.refused("a wrong number comes first", Check.ARGUMENT, () -> x.wave(0, 1, 400));
        Check.due("of face 0", x.threshold(0), 15);
        Check.due("of face 1", x.threshold(1), 15);
        x.day(3);
        Check.refused("told ones stay told", Check.NO_ROOM, () -> x.wave(0, 1, 4));
    }

    private static void byFace() {
        ReplenishRules x = new ReplenishRules();
        x.face(0, 0, 0, 0);
        x.face(1, 0, 0, 0);
        x.wave(0, 3, 0);
        x.wave(0, 3, 0);
        x.wave(1, 5, 0);
        Check.due("the sum of its own", x.threshold(0), 6);
        Check.due("the other's", x.threshold(1), 5);
    }
}
