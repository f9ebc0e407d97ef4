/** Promise 16: above. */
public final class AboveTest {
    public static void main(String[] args) {
        numbers();
        itIsNone();
        aboveItsRoom();
        byForecast();
        Check.refusalsInOrder(16);
        Warehouse.refused("no such place, so no face", Check.ARGUMENT, x -> x.above(16));
        Check.finish();
    }

    private static void numbers() {
        Check.says(16, "PLACES 0 .. 15");
        Warehouse.range("above(n)", 0, 15, (x, n) -> x.above(n));
    }

    private static void itIsNone() {
        Check.says(16, "IllegalStateException: it is none.");
        Warehouse.refused("a reserve", Check.STATE, x -> x.above(9));
        Warehouse.refused("an empty reserve", Check.STATE, x -> x.above(5));
        Warehouse.taken("an empty face", x -> x.above(4));
    }

    private static void aboveItsRoom() {
        Check.says(16, "Whether what a face needs is above its room.");
        ReplenishRules x = new ReplenishRules();
        x.place(0, 50, 0);
        x.face(0, 0, 0, 0);
        Check.due("it needs nothing", x.above(0), false);
        x.face(0, 0, 50, 50);
        Check.due("a least at the room", x.above(0), false);
        x.wave(0, 50, 0);
        Check.due("waves at the room", x.above(0), false);
        x.wave(0, 1, 1);
        Check.due("waves one above the room", x.above(0), true);
        x.place(0, 51, 0);
        Check.due("with more room", x.above(0), false);
        x.put(0, 0, 51);
        x.wave(0, 1, 1);
        Check.due("what it has does not help", x.above(0), true);
        x.day(1);
        Check.due("with fewer waves ahead", x.above(0), false);
    }

    private static void byForecast() {
        Check.says(16, "if that is above the room it is told, and is the room.");
        ReplenishRules x = new ReplenishRules();
        x.face(0, 0, 0, 0);
        x.put(0, 0, 100);
        x.use(0, 100);
        x.rule(0, 1, 10, 1);
        x.day(1);
        Check.due("a forecast at the room", x.above(0), false);
        x.rule(0, 1, 11, 1);
        Check.due("a forecast above the room", x.above(0), true);
        x.place(0, 1099, 0);
        Check.due("one above the room", x.above(0), true);
        x.day(2);
        Check.due("behind the rule's last day", x.above(0), false);
    }
}
