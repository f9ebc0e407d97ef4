/** Promise 15: threshold. */
public final class ThresholdTest {
    public static void main(String[] args) {
        numbers();
        itIsNone();
        greatestOfThree();
        equalOnes();
        daysOfWaves();
        isTheRoom();
        Check.refusalsInOrder(15);
        Warehouse.refused("no such place, so no face", Check.ARGUMENT, x -> x.threshold(16));
        Check.finish();
    }

    private static void numbers() {
        Check.says(15, "PLACES 0 .. 15");
        Warehouse.range("threshold(n)", 0, 15, (x, n) -> x.threshold(n));
    }

    private static void itIsNone() {
        Check.says(15, "A face's threshold. IllegalStateException: it is none.");
        Warehouse.refused("a reserve", Check.STATE, x -> x.threshold(9));
        Warehouse.refused("an empty reserve", Check.STATE, x -> x.threshold(5));
        Warehouse.taken("an empty face", x -> x.threshold(4));
    }

    private static void greatestOfThree() {
        Check.says(15, "THE THRESHOLD: the greatest of least, forecast, and what waves need of it");
        ReplenishRules x = new ReplenishRules();
        x.face(0, 0, 0, 100);
        Check.due("none of the three", x.threshold(0), 0);
        x.face(0, 0, 20, 100);
        x.put(0, 0, 100);
        x.use(0, 30);
        Check.due("least", x.threshold(0), 20);
        x.day(1);
        x.rule(0, 1, 2, 399);
        Check.due("forecast", x.threshold(0), 60);
        x.wave(0, 40, 1);
        x.wave(0, 21, 3);
        Check.due("waves", x.threshold(0), 61);
        x.face(0, 0, 62, 62);
        Check.due("least again", x.threshold(0), 62);
        x.rule(0, 1, 3, 399);
        Check.due("forecast again", x.threshold(0), 90);
    }

    private static void equalOnes() {
        Check.says(15, "the greatest of least, forecast, and what waves need of it");
        ReplenishRules x = new ReplenishRules();
        x.face(0, 0, 30, 30);
        x.put(0, 0, 30);
        x.use(0, 30);
        x.rule(0, 1, 1, 399);
        x.wave(0, 30, 1);
        x.day(1);
        Check.due("the greatest, not the sum", x.threshold(0), 30);
        x.put(0, 0, 1);
        x.use(0, 1);
        Check.due("what was used today is not past", x.threshold(0), 30);
    }

    private static void daysOfWaves() {
        Check.says(15, "on days from today to today and the days ahead");
        ReplenishRules x = new ReplenishRules();
        x.face(0, 0, 0, 0);
        x.rule(0, 0, 3, 399);
        x.day(9);
        int[] days = {9, 10, 12, 13};
        int[] needs = {1, 20, 300, 400};
        for (int i = 0; i < days.length; i++) {
            x.wave(0, needs[i], days[i]);
        }
        Check.due("from day 9 to day 12", x.threshold(0), 321);
        x.day(10);
        Check.due("from day 10 to day 13", x.threshold(0), 720);
        x.day(11);
        Check.due("from day 11", x.threshold(0), 700);
        x.day(13);
        Check.due("from day 13", x.threshold(0), 400);
        x.day(14);
        Check.due("from day 14", x.threshold(0), 0);
        x.wave(0, 5, 399);
        x.rule(0, 0, 30, 399);
        x.day(399);
        Check.due("from the last day to days that there are not", x.threshold(0), 5);
    }

    private static void isTheRoom() {
        Check.says(15, "if that is above the room it is told, and is the room.");
        ReplenishRules x = new ReplenishRules();
        x.place(0, 50, 0);
        x.face(0, 0, 0, 50);
        x.wave(0, 49, 0);
        Check.due("one below the room", x.threshold(0), 49);
        x.wave(0, 1, 0);
        Check.due("at the room", x.threshold(0), 50);
        x.wave(0, 1, 0);
        Check.due("one above the room", x.threshold(0), 50);
        x.place(0, 51, 0);
        Check.due("with more room", x.threshold(0), 51);
        x.day(2);
        x.put(0, 0, 40);
        x.use(0, 40);
        x.rule(0, 1, 30, 399);
        x.day(3);
        Check.due("a forecast of 400", x.threshold(0), 51);
        x.place(0, 400, 0);
        Check.due("a forecast of 400 at the room", x.threshold(0), 400);
        x.place(0, 401, 0);
        Check.due("a forecast of 400 below the room", x.threshold(0), 400);
        x.face(0, 0, 401, 401);
        Check.due("a least at the room", x.threshold(0), 401);
    }
}
