/** Promise 12: day. */
public final class DayTest {
    public static void main(String[] args) {
        ReplenishRules x = new ReplenishRules();
        Check.refused("day(-1)", Check.ARGUMENT, () -> x.day(-1));
        Check.refused("day(400)", Check.ARGUMENT, () -> x.day(400));
        Check.refused("day of the greatest number", Check.ARGUMENT, () -> x.day(Integer.MAX_VALUE));
        Check.taken("day(0)", () -> x.day(0));
        x.face(0, 0, 0, 10);
        x.put(0, 0, 10);
        x.use(0, 3);
        x.day(5);
        Check.taken("today again", () -> x.day(5));
        Check.refused("before today", Check.ARGUMENT, () -> x.day(4));
        x.use(0, 4);
        x.day(6);
        Check.due("it stayed day 5", x.mean(0, 1), 4);
        Check.due("days 0 to 5", x.mean(0, 6), 1);
        Check.pieces(x, 0, 3);
        x.put(1, 0, 20);
        x.wave(0, 8, 6);
        Check.due("run()", x.run(), 1);
        x.day(399);
        Check.move(x, 0, 1, 0, 7);
        Check.refused("day(398)", Check.ARGUMENT, () -> x.day(398));
        Check.taken("day(399)", () -> x.day(399));
        Check.finish();
    }
}
