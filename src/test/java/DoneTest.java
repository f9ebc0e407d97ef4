/** Promise 19: done. */
public final class DoneTest {
    public static void main(String[] args) {
        noSuchMove();
        isDone();
        itWas();
        notSoManyFree();
        ofThatGood();
        theFacesGoodNow();
        noRoom();
        order();
        Check.finish();
    }

    private static void noSuchMove() {
        Check.says(19, "NoSuchElementException: a move that there is not");
        int[] none = {-1, 5, 15, 29, 30, 31, Integer.MIN_VALUE, Integer.MAX_VALUE};
        for (int i : none) {
            Warehouse.refused("done(" + i + ") of five", Check.NO_ELEMENT, x -> x.done(i));
        }
        Warehouse.taken("the first that is not done", x -> x.done(1));
        Warehouse.taken("the last", x -> x.done(4));
        ReplenishRules x = new ReplenishRules();
        Check.refused("before a run", Check.NO_ELEMENT, () -> x.done(0));
        x.run();
        Check.refused("of an empty plan", Check.NO_ELEMENT, () -> x.done(0));
    }

    /** Face 0 wants 20 of good 1: 12 from place 1 and 8 of the 30 at place 2. */
    private static ReplenishRules planned() {
        ReplenishRules x = new ReplenishRules();
        x.face(0, 1, 20, 20);
        x.put(1, 1, 12);
        x.put(2, 1, 30);
        Check.due("run()", x.run(), 2);
        return x;
    }

    private static void isDone() {
        Check.says(19, "A planned move is done, with the good that is the face's now.");
        ReplenishRules x = planned();
        x.done(1);
        Check.told(x, 0, 8, 0, 1, 1, 20, 20);
        Check.told(x, 2, 22, 0, 1, 0, 0, 0);
        Check.told(x, 1, 12, 0, 1, 0, 0, 0);
        Check.due("it is done", x.move(1, 6), 1);
        Check.due("the other is not", x.move(0, 6), 0);
        x.done(0);
        Check.told(x, 0, 20, 0, 1, 1, 20, 20);
        Check.told(x, 1, 0, 0, -1, 0, 0, 0);
        Check.taken("an empty reserve takes another good", () -> x.put(1, 5, 1));
        x.day(1);
        Check.due("nothing was used", x.mean(0, 1), 0);
    }

    private static void itWas() {
        Check.says(19, "IllegalStateException: it was");
        Warehouse.refused("it was", Check.STATE, x -> x.done(0));
        Warehouse.refused("it was, though the reserve has as many again", Check.STATE, x -> {
            x.use(1, 52);
            x.put(10, 2, 40);
        }, x -> x.done(0));
        Warehouse.refused("the other, done as well", Check.STATE, x -> x.done(4), x -> x.done(4));
    }

    private static void notSoManyFree() {
        Check.says(19, "or the reserve has not so many free pieces of that good");
        Warehouse.refused("one is held, 32 of 33 are free", Check.STATE, x -> x.hold(12, 1), x -> x.done(3));
        Warehouse.refused("all are held", Check.STATE, x -> x.hold(12, 33), x -> x.done(3));
        Warehouse.taken("just 33 are free", x -> x.done(3));
        Warehouse.refused("6 of 25 are held, 20 are wanted", Check.STATE, x -> x.hold(8, 6), x -> x.done(1));
        Warehouse.taken("5 of 25 are held, 20 are wanted", x -> x.done(1));
        Warehouse.refused("it has fewer, as its face", Check.STATE, x -> {
            x.face(12, 0, 0, 0);
            x.use(12, 1);
        }, x -> x.done(3));
        Warehouse.refused("it has none any more", Check.STATE, x -> {
            x.face(12, 0, 0, 0);
            x.use(12, 33);
        }, x -> x.done(3));
        ReplenishRules x = Warehouse.made();
        x.done(1);
        Check.told(x, 8, 5, 5, 1, 0, 0, 0);
        Check.told(x, 0, 38, 0, 1, 1, 30, 80);
    }

    private static void ofThatGood() {
        Check.says(19, "or the reserve has not so many free pieces of that good, or the face holds another one");
        Warehouse.refused("the reserve has another good now", Check.STATE, x -> {
            x.face(12, 0, 0, 0);
            x.use(12, 33);
            x.face(12, 4, 0, 0);
            x.put(12, 4, 100);
        }, x -> x.done(3));
        Warehouse.refused("the face is for another good now", Check.STATE, x -> {
            x.use(0, 18);
            x.face(0, 3, 30, 80);
        }, x -> x.done(1));
        Warehouse.refused("the face holds another good now", Check.STATE, x -> {
            x.use(0, 18);
            x.face(0, 3, 30, 80);
            x.put(0, 3, 1);
        }, x -> x.done(1));
    }

    private static void theFacesGoodNow() {
        Check.says(19, "with the good that is the face's now.");
        ReplenishRules x = planned();
        x.face(0, 3, 0, 20);
        Check.refused("the reserve has none of the face's good", Check.STATE, () -> x.done(0));
        x.face(1, 1, 0, 0);
        x.use(1, 12);
        x.face(1, 3, 0, 0);
        x.put(1, 3, 40);
        Check.taken("the place has the face's good now", () -> x.done(0));
        Check.told(x, 0, 12, 0, 3, 1, 0, 20);
        Check.told(x, 1, 28, 0, 3, 1, 0, 0);
    }

    private static void noRoom() {
        Check.says(19, "UnsupportedOperationException: there is no room for them at the face.");
        Warehouse.refused("room for 19, 20 come", Check.NO_ROOM, x -> x.put(0, 1, 63), x -> x.done(1));
        Warehouse.taken("room for 20, 20 come", x -> {
            x.put(0, 1, 62);
            x.done(1);
        });
        Warehouse.refused("a full face", Check.NO_ROOM, x -> x.put(0, 1, 82), x -> x.done(1));
        Warehouse.refused("less room", Check.NO_ROOM, x -> x.place(2, 122, 3), x -> x.done(4));
        Warehouse.taken("just room", x -> {
            x.place(2, 123, 3);
            x.done(4);
        });
        Warehouse.taken("above the face's most, within its room, on a closed day", x -> {
            x.face(0, 1, 0, 1);
            x.open(45, false);
            x.done(1);
        });
    }

    private static void order() {
        Check.refusalsInOrder(19);
        Warehouse.refused("it was, and no room", Check.STATE, x -> x.put(1, 2, 8), x -> x.done(0));
        Warehouse.refused("a held piece, and no room", Check.STATE, x -> {
            x.hold(8, 6);
            x.put(0, 1, 82);
        }, x -> x.done(1));
        Warehouse.refused("another good, and no room", Check.STATE, x -> {
            x.use(0, 18);
            x.face(0, 3, 30, 80);
            x.put(0, 3, 100);
        }, x -> x.done(1));
    }
}
