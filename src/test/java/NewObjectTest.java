/** Promise 1: empty places, no faces, day 0, and what the terms say is so at first. */
public final class NewObjectTest {
    public static void main(String[] args) {
        placesAreEmpty();
        nothingIsPlanned();
        itIsDayZeroAndOpen();
        firstRoomAndZone();
        firstRuleFactorAndCases();
        objectsAreApart();
        Check.finish();
    }

    private static void placesAreEmpty() {
        ReplenishRules x = new ReplenishRules();
        int[] want = {0, 0, -1, 0, 0, 0};
        for (int place = 0; place < 16; place++) {
            for (int what = 0; what < want.length; what++) {
                Check.due("told(" + place + ", " + what + ")", x.told(place, what), want[what]);
            }
        }
    }

    private static void nothingIsPlanned() {
        ReplenishRules x = new ReplenishRules();
        Check.refused("move(0, 0) before a run", Check.NO_ELEMENT, () -> x.move(0, 0));
        Check.refused("done(0) before a run", Check.NO_ELEMENT, () -> x.done(0));
        Check.due("run()", x.run(), 0);
        Check.refused("move(0, 0) of an empty plan", Check.NO_ELEMENT, () -> x.move(0, 0));
    }

    private static void itIsDayZeroAndOpen() {
        ReplenishRules x = new ReplenishRules();
        Check.taken("open(0, true)", () -> x.open(0, true));
        Check.taken("day(0)", () -> x.day(0));
        Check.due("run() on day 0", x.run(), 0);
        for (int day = 1; day < 400; day++) {
            x.day(day);
        }
        Check.due("run() on day 399", x.run(), 0);
    }

    private static void firstRoomAndZone() {
        ReplenishRules x = new ReplenishRules();
        for (int place = 0; place < 16; place++) {
            int p = place;
            Check.refused("put of 1001", Check.NO_ROOM, () -> x.put(p, 0, 1001));
            Check.taken("put of 1000", () -> x.put(p, 0, 1000));
        }
        ReplenishRules y = new ReplenishRules();
        y.place(4, 1000, 0);
        y.put(3, 0, 10);
        y.put(4, 0, 10);
        y.face(0, 0, 5, 20);
        Check.due("run()", y.run(), 2);
        Check.move(y, 0, 3, 0, 10, 9999, 0, 1);
        Check.move(y, 1, 4, 0, 10, 9999, 0, 1);
    }

    private static void firstRuleFactorAndCases() {
        ReplenishRules x = new ReplenishRules();
        x.face(0, 7, 0, 33);
        x.put(0, 7, 40);
        x.use(0, 20);
        x.day(1);
        Check.due("forecast(0) by the first rule", x.forecast(0), 0);
        x.wave(0, 5, 2);
        x.wave(0, 70, 3);
        Check.due("threshold(0), one day ahead", x.threshold(0), 5);
        x.rule(0, 1, 1, 399);
        Check.due("forecast(0) by the first factor", x.forecast(0), 20);
        x.use(0, 7);
        x.put(1, 7, 500);
        Check.due("run()", x.run(), 1);
        Check.move(x, 0, 1, 0, 20);
    }

    private static void objectsAreApart() {
        ReplenishRules x = new ReplenishRules();
        x.put(0, 1, 5);
        x.day(9);
        ReplenishRules y = new ReplenishRules();
        Check.pieces(y, 0, 0);
        Check.taken("day(0) of another object", () -> y.day(0));
        Check.pieces(x, 0, 5);
    }
}
