/** Promise 6: hold. */
public final class HoldTest {
    public static void main(String[] args) {
        ReplenishRules x = new ReplenishRules();
        x.put(0, 0, 10);
        Check.taken("hold(0, 10)", () -> x.hold(0, 10));
        Check.due("held", x.told(0, 1), 10);
        x.hold(0, 3);
        Check.due("instead of what was", x.told(0, 1), 3);
        Check.refused("more than there is", Check.STATE, () -> x.hold(0, 11));
        Check.refused("far more than there is", Check.STATE, () -> x.hold(0, Integer.MAX_VALUE));
        Check.refused("below 0", Check.ARGUMENT, () -> x.hold(0, -1));
        Check.refused("far below 0", Check.ARGUMENT, () -> x.hold(0, Integer.MIN_VALUE));
        Check.due("what is refused changes nothing", x.told(0, 1), 3);
        Check.pieces(x, 0, 10);
        Check.refused("hold(-1, 0)", Check.ARGUMENT, () -> x.hold(-1, 0));
        Check.refused("hold(16, 0)", Check.ARGUMENT, () -> x.hold(16, 0));
        Check.taken("hold(15, 0) of an empty place", () -> x.hold(15, 0));
        Check.refused("hold(15, 1) of an empty place", Check.STATE, () -> x.hold(15, 1));
        x.face(1, 0, 20, 20);
        x.run();
        Check.move(x, 0, 0, 1, 7);
        x.hold(0, 10);
        Check.due("held pieces are not free", x.run(), 0);
        x.hold(0, 0);
        x.run();
        Check.move(x, 0, 0, 1, 10);
        Check.finish();
    }
}
