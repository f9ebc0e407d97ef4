/** Promise 13: mean. */
public final class MeanTest {
    public static void main(String[] args) {
        numbers();
        noFace();
        noneWasOpen();
        lastDays();
        openOnes();
        restsDropped();
        greatest();
        order();
        Check.finish();
    }

    private static void numbers() {
        Check.says(13, "PLACES 0 .. 15");
        Warehouse.range("mean(n, 5)", 0, 15, (x, n) -> x.mean(n, 5));
        Check.says(13, "on the last so many days (0 .. 60) before today");
        Warehouse.outside("mean(0, n)", 0, 60, (x, n) -> x.mean(0, n));
        Warehouse.taken("mean(0, 60)", x -> x.mean(0, 60));
        Warehouse.taken("mean(0, 1)", x -> x.mean(0, 1));
        Warehouse.refused("mean(0, 0): there is no day", Check.ARITHMETIC, x -> x.mean(0, 0));
        Check.says(13, "divided by how many of those were open (rests dropped). IllegalArgumentException;");
        Warehouse.refused("mean(16, 61)", Check.ARGUMENT, x -> x.mean(16, 61));
    }

    private static void noFace() {
        Check.says(13, "IllegalStateException: it is no face");
        Warehouse.refused("a reserve", Check.STATE, x -> x.mean(9, 5));
        Warehouse.refused("an empty reserve", Check.STATE, x -> x.mean(5, 60));
    }

    private static void noneWasOpen() {
        Check.says(13, "ArithmeticException (the machine's own): none was.");
        ReplenishRules x = new ReplenishRules();
        x.face(0, 0, 0, 0);
        Check.refused("no day is before day 0", Check.ARITHMETIC, () -> x.mean(0, 60));
        x.put(0, 0, 9);
        x.use(0, 9);
        x.open(0, false);
        x.open(1, false);
        x.day(1);
        Check.refused("one day, closed, though used on it", Check.ARITHMETIC, () -> x.mean(0, 1));
        Check.refused("no day", Check.ARITHMETIC, () -> x.mean(0, 0));
        x.day(2);
        Check.refused("two days, closed", Check.ARITHMETIC, () -> x.mean(0, 60));
        x.day(3);
        Check.due("three days, one open", x.mean(0, 3), 9);
        Warehouse.refused("just closed days behind an open one", Check.ARITHMETIC, y -> {
            y.open(45, false);
            y.open(46, false);
            y.day(47);
        }, y -> y.mean(0, 2));
    }

    private static void lastDays() {
        Check.says(13, "What was used of a face on the last so many days (0 .. 60) before today");
        ReplenishRules x = new ReplenishRules();
        x.face(0, 0, 0, 0);
        x.put(0, 0, 1000);
        x.use(0, 600);
        x.day(1);
        x.use(0, 59);
        x.day(60);
        Check.due("day 0 is the 60th before day 60", x.mean(0, 60), 10);
        Check.due("day 1 is the 59th before day 60", x.mean(0, 59), 1);
        Check.due("neither is among 58", x.mean(0, 58), 0);
        x.use(0, 100);
        Check.due("today is not before today", x.mean(0, 59), 1);
        x.day(61);
        Check.due("day 0 is the 61st before day 61", x.mean(0, 60), 2);
        Check.due("day 60 is the first before day 61", x.mean(0, 1), 100);
    }

    private static void openOnes() {
        Check.says(13, "divided by how many of those were open");
        ReplenishRules x = new ReplenishRules();
        x.face(0, 0, 0, 0);
        x.put(0, 0, 1000);
        x.open(1, false);
        x.open(3, false);
        x.use(0, 10);
        x.day(1);
        x.use(0, 11);
        x.day(3);
        Check.due("three days, two open; today is closed", x.mean(0, 3), 10);
        Check.due("two days, one open", x.mean(0, 2), 11);
        Check.due("sixty days, of which there are three", x.mean(0, 60), 10);
    }

    private static void restsDropped() {
        Check.says(13, "(rests dropped)");
        ReplenishRules x = new ReplenishRules();
        x.face(0, 0, 0, 0);
        x.put(0, 0, 5);
        x.use(0, 5);
        x.day(3);
        Check.due("5 / 3", x.mean(0, 3), 1);
        x.day(5);
        Check.due("5 / 5", x.mean(0, 5), 1);
        x.day(6);
        Check.due("5 / 6", x.mean(0, 6), 0);
    }

    private static void greatest() {
        Check.says(13, "What was used of a face");
        ReplenishRules x = new ReplenishRules();
        x.place(0, 100000, 0);
        x.face(0, 0, 0, 0);
        for (int i = 0; i < 250; i++) {
            x.put(0, 0, 100000);
            x.use(0, 100000);
        }
        x.day(1);
        Check.due("250 times 100000", x.mean(0, 60), 25000000);
    }

    private static void order() {
        Check.refusalsInOrder(13);
        Warehouse.refused("no such days, of no face", Check.ARGUMENT, x -> x.mean(9, 61));
        Warehouse.refused("no such days, of no face", Check.ARGUMENT, x -> x.mean(9, -1));
        Warehouse.refused("no face, and none was open", Check.STATE, x -> x.mean(9, 0));
        Warehouse.refused("no such place, and none was open", Check.ARGUMENT, x -> x.mean(16, 0));
    }
}
