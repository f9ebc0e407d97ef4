/** Promise 4: put. */
public final class PutTest {
    public static void main(String[] args) {
        numbers();
        comes();
        holdsAnother();
        faceOfAnother();
        noRoom();
        order();
        Check.finish();
    }

    private static void numbers() {
        Check.says(4, "PLACES 0 .. 15");
        Warehouse.range("put(n, good, 1)", 0, 15, (x, n) -> x.put(n, n == 0 ? 1 : 6, 1));
        Check.says(4, "and hold pieces of one good (0 .. 7) or none; some pieces may be HELD.");
        Warehouse.range("put(5, n, 1)", 0, 7, (x, n) -> x.put(5, n, 1));
        Check.says(4, "Pieces (1 .. 100000) of a good come to a place.");
        Warehouse.range("put(13, 3, n)", 1, 100000, (x, n) -> {
            if (n == 100000) {
                x.place(13, 100000, 0);
            }
            x.put(13, 3, n);
        });
        Warehouse.refused("put(5, 3, 100001)", Check.ARGUMENT, x -> x.place(5, 100000, 0), x -> x.put(5, 3, 100001));
    }

    private static void comes() {
        Check.says(4, "Pieces (1 .. 100000) of a good come to a place.");
        ReplenishRules x = new ReplenishRules();
        x.put(6, 5, 1);
        Check.told(x, 6, 1, 0, 5, 0, 0, 0);
        x.put(6, 5, 41);
        Check.told(x, 6, 42, 0, 5, 0, 0, 0);
        x.hold(6, 10);
        x.put(6, 5, 1);
        Check.told(x, 6, 43, 10, 5, 0, 0, 0);
        x.put(7, 0, 3);
        Check.told(x, 7, 3, 0, 0, 0, 0, 0);
        Check.told(x, 8, 0, 0, -1, 0, 0, 0);
    }

    private static void holdsAnother() {
        Check.says(4, "IllegalStateException: it holds another good");
        Warehouse.refused("a reserve of good 1", Check.STATE, x -> x.put(8, 0, 1));
        Warehouse.refused("a reserve whose pieces are all held", Check.STATE, x -> x.put(11, 1, 1));
        Warehouse.taken("its own good", x -> x.put(11, 2, 1));
        Warehouse.taken("any good to what is empty now", x -> x.put(10, 3, 1));
    }

    private static void faceOfAnother() {
        Check.says(4, "it holds another good, or is the face of another one; UnsupportedOperationException.");
        Warehouse.refused("an empty face for good 5", Check.STATE, x -> x.put(4, 4, 1));
        Warehouse.taken("its own good to an empty face", x -> x.put(4, 5, 1));
        Warehouse.refused("a face with pieces", Check.STATE, x -> x.put(0, 2, 1));
        Warehouse.refused("the good before, to a face that is told anew", Check.STATE, x -> x.face(4, 6, 0, 0),
            x -> x.put(4, 5, 1));
    }

    private static void noRoom() {
        Check.says(4, "or is the face of another one; UnsupportedOperationException.");
        Warehouse.refused("one to a full place", Check.NO_ROOM, x -> x.put(14, 7, 1));
        Warehouse.refused("the most there can be to a full place", Check.NO_ROOM, x -> x.put(14, 7, 100000));
        Warehouse.refused("9 to room for 8", Check.NO_ROOM, x -> x.put(1, 2, 9));
        Warehouse.taken("8 to room for 8", x -> x.put(1, 2, 8));
        Warehouse.refused("2 to an empty room of 1", Check.NO_ROOM, x -> x.put(13, 3, 2));
        Warehouse.taken("1 to an empty room of 1", x -> x.put(13, 3, 1));
        Warehouse.taken("above a face's most, within its room", x -> x.put(4, 5, 1000));
        Warehouse.refused("1 behind that", Check.NO_ROOM, x -> x.put(4, 5, 1000), x -> x.put(4, 5, 1));
        Check.says(4, "have room for so many pieces (1000 at first)");
        Warehouse.refused("1001 to a first room", Check.NO_ROOM, x -> x.put(7, 0, 1001));
        Warehouse.taken("1000 to a first room", x -> x.put(7, 0, 1000));
    }

    private static void order() {
        Check.refusalsInOrder(4);
        Warehouse.refused("no such number, of another good", Check.ARGUMENT, x -> x.put(8, 0, 0));
        Warehouse.refused("no such good, not the one it holds", Check.ARGUMENT, x -> x.put(8, 8, 1));
        Warehouse.refused("no such number, to a face of another", Check.ARGUMENT, x -> x.put(4, 4, 100001));
        Warehouse.refused("no such number, and no room", Check.ARGUMENT, x -> x.put(14, 7, 100001));
        Warehouse.refused("another good, and no room", Check.STATE, x -> x.put(14, 6, 1));
        Warehouse.refused("a face of another, and no room", Check.STATE, x -> x.put(4, 4, 1001));
    }
}
