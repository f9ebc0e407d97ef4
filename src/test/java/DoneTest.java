/** Promise 19: done. */
public final class DoneTest {
    public static void main(String[] args) {
        movesPieces();
        refusedOnce();
        reserveHasNotSoMany();
        theFacesGoodNow();
        reserveOfAnotherGood();
        noRoom();
        Check.finish();
    }

    /** Face 0 wants 20 of good 1: 12 from place 1 and 8 of the 30 at place 2. */
    private static ReplenishRules planned() {
        ReplenishRules x = new ReplenishRules();
        x.face(0, 1, 20, 20);
        x.put(1, 1, 12);
        x.put(2, 1, 30);
        Check.due("run()", x.run(), 2);
        return x;
    }

    private static void movesPieces() {
        ReplenishRules x = planned();
        x.done(1);
        Check.pieces(x, 0, 8);
        Check.pieces(x, 2, 22);
        Check.due("the face's good", x.told(0, 2), 1);
        x.done(0);
        Check.pieces(x, 0, 20);
        Check.pieces(x, 1, 0);
        Check.due("no good is left", x.told(1, 2), -1);
        Check.taken("the reserve takes another good", () -> x.put(1, 5, 1));
    }

    private static void refusedOnce() {
        ReplenishRules x = planned();
        Check.refused("done(-1)", Check.NO_ELEMENT, () -> x.done(-1));
        Check.refused("done(2)", Check.NO_ELEMENT, () -> x.done(2));
        x.done(1);
        Check.refused("done again", Check.STATE, () -> x.done(1));
        Check.pieces(x, 0, 8);
        Check.pieces(x, 2, 22);
    }

    private static void reserveHasNotSoMany() {
        ReplenishRules x = planned();
        x.hold(1, 1);
        x.place(0, 20, 0);
        x.put(0, 1, 20);
        Check.refused("a held piece comes before no room", Check.STATE, () -> x.done(0));
        x.use(0, 20);
        Check.refused("a held piece", Check.STATE, () -> x.done(0));
        Check.due("not done", x.move(0, 6), 0);
        Check.pieces(x, 1, 12);
        x.hold(2, 22);
        Check.taken("just so many free ones", () -> x.done(1));
        x.hold(1, 0);
        Check.taken("no held piece", () -> x.done(0));
        Check.pieces(x, 0, 20);
    }

    private static void theFacesGoodNow() {
        ReplenishRules x = planned();
        x.face(0, 3, 0, 20);
        Check.refused("the reserve has none of the face's good", Check.STATE, () -> x.done(0));
        Check.due("the face is empty still", x.told(0, 2), -1);
        x.face(1, 1, 0, 0);
        x.use(1, 12);
        x.face(1, 3, 0, 0);
        x.put(1, 3, 40);
        Check.taken("the place has the face's good now", () -> x.done(0));
        Check.pieces(x, 0, 12);
        Check.due("the good", x.told(0, 2), 3);
        Check.pieces(x, 1, 28);
    }

    private static void reserveOfAnotherGood() {
        ReplenishRules x = planned();
        x.done(0);
        x.run();
        Check.move(x, 0, 2, 0, 8);
        x.face(2, 1, 0, 0);
        x.use(2, 30);
        Check.refused("the reserve is empty", Check.STATE, () -> x.done(0));
        x.face(2, 4, 0, 0);
        x.put(2, 4, 30);
        Check.refused("the reserve has another good", Check.STATE, () -> x.done(0));
        Check.pieces(x, 2, 30);
        Check.pieces(x, 0, 12);
    }

    private static void noRoom() {
        ReplenishRules x = planned();
        x.place(0, 20, 0);
        x.put(0, 1, 9);
        Check.refused("no room", Check.NO_ROOM, () -> x.done(0));
        Check.pieces(x, 0, 9);
        Check.pieces(x, 1, 12);
        Check.due("not done", x.move(0, 6), 0);
        x.use(0, 1);
        Check.taken("just room", () -> x.done(0));
        Check.refused("no room for the other", Check.NO_ROOM, () -> x.done(1));
        x.open(0, false);
        x.place(0, 28, 0);
        Check.taken("more room, on a closed day", () -> x.done(1));
    }
}
