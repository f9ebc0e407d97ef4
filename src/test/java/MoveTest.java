/** Promise 18: move. */
public final class MoveTest {
    public static void main(String[] args) {
        ReplenishRules x = new ReplenishRules();
        x.place(3, 1000, 1);
        x.place(4, 1000, 1);
        x.face(3, 6, 30, 50);
        x.put(3, 6, 25);
        x.put(9, 6, 100);
        x.put(4, 6, 12);
        x.use(3, 5);
        x.day(4);
        Check.due("run()", x.run(), 2);
        Check.move(x, 0, 4, 3, 12, 16, 0, 1, 0);
        Check.move(x, 1, 9, 3, 18, 16, 1, 0, 0);
        Check.refused("move(-1, 0)", Check.NO_ELEMENT, () -> x.move(-1, 0));
        Check.refused("move(2, 0)", Check.NO_ELEMENT, () -> x.move(2, 0));
        Check.refused("move(30, 0)", Check.NO_ELEMENT, () -> x.move(30, 0));
        Check.refused("move of the greatest number", Check.NO_ELEMENT, () -> x.move(Integer.MAX_VALUE, 0));
        Check.refused("move(0, -1)", Check.ARGUMENT, () -> x.move(0, -1));
        Check.refused("move(0, 7)", Check.ARGUMENT, () -> x.move(0, 7));
        Check.refused("no such move comes first", Check.NO_ELEMENT, () -> x.move(2, 7));
        x.done(1);
        Check.due("not done", x.move(0, 6), 0);
        Check.due("done", x.move(1, 6), 1);
        asPlanned(x);
        Check.finish();
    }

    private static void asPlanned(ReplenishRules x) {
        x.put(4, 6, 1);
        x.hold(9, 82);
        x.place(4, 1000, 0);
        x.face(3, 6, 0, 0);
        x.day(9);
        Check.move(x, 0, 4, 3, 12, 16, 0, 1, 0);
        Check.move(x, 1, 9, 3, 18, 16, 1, 0, 1);
    }
}
