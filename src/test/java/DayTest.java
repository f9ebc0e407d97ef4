/** Promise 12: day. */
public final class DayTest {
    public static void main(String[] args) {
        none();
        beforeToday();
        thisDayNow();
        Check.refusalsInOrder(12);
        Warehouse.refused("no such day, and before today", Check.ARGUMENT, x -> x.day(-1));
        Check.finish();
    }

    private static void none() {
        Check.says(12, "DAYS are 0 .. 399; it is one of them (0 at first)");
        Warehouse.range("day(n)", Warehouse.TODAY, 399, (x, n) -> x.day(n));
        Check.says(12, "IllegalArgumentException: none, or before today.");
        Warehouse.refused("day(-1)", Check.ARGUMENT, x -> x.day(-1));
        Warehouse.refused("day(400)", Check.ARGUMENT, x -> x.day(400));
        ReplenishRules x = new ReplenishRules();
        Check.refused("day(-1) on day 0", Check.ARGUMENT, () -> x.day(-1));
        Check.taken("day(0) on day 0", () -> x.day(0));
        Check.refused("day(400) on day 0", Check.ARGUMENT, () -> x.day(400));
        Check.taken("day(399) on day 0", () -> x.day(399));
        Check.refused("day(400) on day 399", Check.ARGUMENT, () -> x.day(400));
    }

    private static void beforeToday() {
        Check.says(12, "none, or before today.");
        Warehouse.refused("yesterday", Check.ARGUMENT, x -> x.day(44));
        Warehouse.refused("day 0", Check.ARGUMENT, x -> x.day(0));
        Warehouse.taken("today", x -> x.day(45));
        Warehouse.taken("tomorrow", x -> x.day(46));
        ReplenishRules x = new ReplenishRules();
        x.day(399);
        Check.refused("day(398) on day 399", Check.ARGUMENT, () -> x.day(398));
        Check.taken("day(399) on day 399", () -> x.day(399));
    }

    private static void thisDayNow() {
        Check.says(12, "It is this day now.");
        ReplenishRules x = new ReplenishRules();
        x.face(0, 0, 0, 10);
        x.put(0, 0, 10);
        x.use(0, 3);
        x.day(5);
        x.day(5);
        x.use(0, 4);
        x.day(6);
        Check.due("used on day 5", x.mean(0, 1), 4);
        Check.due("used on the days 0 to 5", x.mean(0, 6), 1);
        Check.pieces(x, 0, 3);
        x.put(1, 0, 20);
        x.wave(0, 8, 6);
        x.open(7, false);
        Check.due("run()", x.run(), 1);
        x.day(7);
        Check.move(x, 0, 1, 0, 7);
        Check.refused("run() on a closed day that it is now", Check.STATE, () -> x.run());
    }
}
