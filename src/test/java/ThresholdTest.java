/** Promise 15: threshold; promise 16: above. */
public final class ThresholdTest {
    public static void main(String[] args) {
        refusals();
        greatestOfThree();
        notAboveTheRoom();
        Check.finish();
    }

    private static void refusals() {
        ReplenishRules x = new ReplenishRules();
        int[] wrong = {-1, 16, Integer.MAX_VALUE, Integer.MIN_VALUE};
        for (int w : wrong) {
            Check.refused("threshold(" + w + ")", Check.ARGUMENT, () -> x.threshold(w));
            Check.refused("above(" + w + ")", Check.ARGUMENT, () -> x.above(w));
        }
        Check.refused("threshold of no face", Check.STATE, () -> x.threshold(15));
        Check.refused("above of no face", Check.STATE, () -> x.above(0));
    }

    private static void greatestOfThree() {
        ReplenishRules x = new ReplenishRules();
        x.face(0, 0, 20, 100);
        x.put(0, 0, 100);
        x.use(0, 30);
        Check.due("least", x.threshold(0), 20);
        x.day(1);
        x.rule(0, 1, 2, 399);
        Check.due("forecast", x.threshold(0), 60);
        x.wave(0, 40, 1);
        x.wave(0, 21, 3);
        x.wave(0, 500, 4);
        Check.due("waves from today to two days ahead", x.threshold(0), 61);
        x.face(0, 0, 62, 62);
        Check.due("least again", x.threshold(0), 62);
        Check.due("above", x.above(0), false);
    }

    private static void notAboveTheRoom() {
        ReplenishRules x = new ReplenishRules();
        x.place(0, 50, 0);
        x.face(0, 0, 50, 50);
        Check.due("least at the room", x.threshold(0), 50);
        Check.due("not above it", x.above(0), false);
        x.wave(0, 50, 0);
        Check.due("waves at the room", x.above(0), false);
        x.wave(0, 1, 1);
        Check.due("waves above the room", x.above(0), true);
        Check.due("it is the room", x.threshold(0), 50);
        x.place(0, 51, 0);
        Check.due("more room", x.above(0), false);
        Check.due("more room's threshold", x.threshold(0), 51);
        x.day(2);
        x.put(0, 0, 51);
        x.use(0, 40);
        x.rule(0, 1, 30, 399);
        x.day(3);
        Check.due("forecast(0)", x.forecast(0), 400);
        Check.due("a forecast above the room", x.above(0), true);
        Check.due("the room", x.threshold(0), 51);
    }
}
