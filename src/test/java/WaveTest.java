/** Promise 10: wave. */
public final class WaveTest {
    public static void main(String[] args) {
        numbers();
        notBeforeToday();
        noFace();
        thirtyAreTold();
        needsOfItsFace();
        order();
        Check.finish();
    }

    private static void numbers() {
        Check.says(10, "PLACES 0 .. 15");
        Warehouse.range("wave(n, 170, 45)", 0, 15, (x, n) -> x.wave(n, 170, 45));
        Check.says(10, "A wave needs so many (1 .. 100000) of a face on a day");
        Warehouse.range("wave(0, n, 45)", 1, 100000, (x, n) -> x.wave(0, n, 45));
        Check.says(10, "DAYS are 0 .. 399");
        Warehouse.range("wave(0, 170, n)", Warehouse.TODAY, 399, (x, n) -> x.wave(0, 170, n));
    }

    private static void notBeforeToday() {
        Check.says(10, "on a day (not before today).");
        Warehouse.refused("yesterday", Check.ARGUMENT, x -> x.wave(0, 170, 44));
        Warehouse.refused("day 0", Check.ARGUMENT, x -> x.wave(0, 170, 0));
        ReplenishRules x = new ReplenishRules();
        x.face(0, 0, 0, 0);
        Check.taken("day 0 on day 0", () -> x.wave(0, 3, 0));
        Check.due("threshold on day 0", x.threshold(0), 3);
        x.day(399);
        Check.refused("day 398 on day 399", Check.ARGUMENT, () -> x.wave(0, 5, 398));
        Check.taken("day 399 on day 399", () -> x.wave(0, 7, 399));
        Check.refused("day 400 on day 399", Check.ARGUMENT, () -> x.wave(0, 5, 400));
        Check.due("threshold on day 399", x.threshold(0), 7);
    }

    private static void noFace() {
        Check.says(10, "IllegalStateException: it is no face");
        Warehouse.refused("a reserve", Check.STATE, x -> x.wave(9, 170, 45));
        Warehouse.refused("an empty reserve", Check.STATE, x -> x.wave(5, 170, 45));
        ReplenishRules x = new ReplenishRules();
        Check.refused("before it is a face", Check.STATE, () -> x.wave(0, 5, 0));
        x.face(0, 0, 0, 0);
        Check.due("a refused wave needs nothing", x.threshold(0), 0);
    }

    private static void thirtyAreTold() {
        Check.says(10, "UnsupportedOperationException: thirty are told.");
        Warehouse.taken("the 29th", x -> x.wave(0, 170, 45));
        Warehouse.taken("the 30th", x -> {
            x.wave(0, 170, 45);
            x.wave(15, 1, 399);
        });
        Warehouse.refused("the 31st", Check.NO_ROOM, WaveTest::tellTwo, x -> x.wave(0, 170, 45));
        Warehouse.refused("the 31st of a face without one", Check.NO_ROOM, WaveTest::tellTwo,
            x -> x.wave(15, 1, 399));
        ReplenishRules x = new ReplenishRules();
        x.face(0, 0, 0, 0);
        x.face(1, 0, 0, 0);
        for (int i = 0; i < 30; i++) {
            int place = i % 2;
            Check.taken("wave " + i, () -> x.wave(place, 1 + place, 1));
        }
        Check.refused("one behind thirty", Check.NO_ROOM, () -> x.wave(0, 1, 1));
        Check.due("of face 0", x.threshold(0), 15);
        Check.due("of face 1", x.threshold(1), 30);
        x.day(3);
        Check.refused("thirty are told still when their days are past", Check.NO_ROOM, () -> x.wave(0, 1, 4));
        Check.due("none is needed any more", x.threshold(0), 0);
    }

    private static void tellTwo(ReplenishRules x) {
        x.wave(1, 2, 45);
        x.wave(1, 2, 46);
    }

    private static void needsOfItsFace() {
        Check.says(10, "A wave needs so many (1 .. 100000) of a face on a day");
        ReplenishRules x = new ReplenishRules();
        x.place(2, 100000, 0);
        x.face(0, 0, 0, 0);
        x.face(1, 0, 0, 0);
        x.face(2, 0, 0, 0);
        x.wave(0, 3, 0);
        x.wave(0, 3, 0);
        x.wave(1, 1, 0);
        x.wave(2, 100000, 0);
        x.wave(2, 100000, 1);
        Check.due("the sum of its own", x.threshold(0), 6);
        Check.due("the least there can be", x.threshold(1), 1);
        Check.due("the most there can be", x.threshold(2), 100000);
        Check.due("twice that is above the room", x.above(2), true);
        x.open(1, false);
        x.day(1);
        Check.due("on a closed day, too", x.threshold(2), 100000);
        Check.due("just the room", x.above(2), false);
    }

    private static void order() {
        Check.refusalsInOrder(10);
        Warehouse.refused("no such number, of no face", Check.ARGUMENT, x -> x.wave(9, 0, 45));
        Warehouse.refused("before today, of no face", Check.ARGUMENT, x -> x.wave(9, 170, 44));
        Warehouse.refused("no such day, of no face", Check.ARGUMENT, x -> x.wave(9, 170, 400));
        Warehouse.refused("no such number, and thirty are told", Check.ARGUMENT, WaveTest::tellTwo,
            x -> x.wave(0, 100001, 45));
        Warehouse.refused("before today, and thirty are told", Check.ARGUMENT, WaveTest::tellTwo,
            x -> x.wave(0, 170, 44));
        Warehouse.refused("no such place, and thirty are told", Check.ARGUMENT, WaveTest::tellTwo,
            x -> x.wave(16, 170, 45));
        Warehouse.refused("no face, and thirty are told", Check.STATE, WaveTest::tellTwo, x -> x.wave(9, 170, 45));
    }
}
