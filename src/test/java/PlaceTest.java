/** Promise 2: place. */
public final class PlaceTest {
    public static void main(String[] args) {
        numbers();
        room();
        zone();
        hasMore();
        mostIsMore();
        order();
        Check.finish();
    }

    private static void numbers() {
        Check.says(2, "PLACES 0 .. 15");
        Warehouse.range("place(n, 700, 1)", 0, 15, (x, n) -> x.place(n, 700, 1));
        Check.says(2, "a zone 0 .. 3");
        Warehouse.range("place(0, 700, n)", 0, 3, (x, n) -> x.place(0, 700, n));
        Check.says(2, "A place's room (1 .. 100000) and zone.");
        Warehouse.outside("place(0, n, 3)", 1, 100000, (x, n) -> x.place(0, n, 3));
        Warehouse.ends("place(13, n, 3)", 1, 100000, (x, n) -> x.place(13, n, 3));
    }

    private static void room() {
        Check.says(2, "A place's room (1 .. 100000) and zone.");
        ReplenishRules x = new ReplenishRules();
        x.place(2, 1, 0);
        Check.refused("2 into a room of 1", Check.NO_ROOM, () -> x.put(2, 0, 2));
        Check.taken("1 into a room of 1", () -> x.put(2, 0, 1));
        x.place(2, 100000, 0);
        Check.taken("99999 more into a room of 100000", () -> x.put(2, 0, 99999));
        Check.refused("one more", Check.NO_ROOM, () -> x.put(2, 0, 1));
        Check.pieces(x, 2, 100000);
        Check.refused("another place's room stays", Check.NO_ROOM, () -> x.put(3, 0, 1001));
    }

    private static void zone() {
        Check.says(2, "A place's room (1 .. 100000) and zone.");
        ReplenishRules x = new ReplenishRules();
        x.face(0, 0, 0, 10);
        x.put(0, 0, 10);
        x.use(0, 1);
        x.day(1);
        for (int zone = 0; zone < 4; zone++) {
            x.rule(zone, 1, 5 + zone, 399);
        }
        for (int zone = 3; zone >= 0; zone--) {
            x.place(0, 1000, zone);
            Check.due("forecast in zone " + zone, x.forecast(0), 5 + zone);
        }
        Check.told(x, 0, 9, 0, 0, 1, 0, 10);
    }

    private static void hasMore() {
        Check.says(2, "IllegalStateException: it has more");
        Warehouse.refused("a room of 49 for 50 pieces", Check.STATE, x -> x.place(14, 49, 2));
        Warehouse.refused("a room of 1 for 50 pieces", Check.STATE, x -> x.place(14, 1, 2));
        Warehouse.taken("a room of 50 for 50 pieces", x -> x.place(14, 50, 2));
        Warehouse.refused("a room of 98 for a face of 99, most 90", Check.STATE, x -> x.place(2, 98, 0));
        Warehouse.taken("a room of 99 for a face of 99, most 90", x -> x.place(2, 99, 0));
        Warehouse.refused("a room of 14 for 15 held ones", Check.STATE, x -> x.place(11, 14, 0));
        Warehouse.taken("a room of 1 for none", x -> x.place(10, 1, 0));
    }

    private static void mostIsMore() {
        Check.says(2, "it has more, or its face's most is more.");
        Warehouse.refused("a room of 79 for a most of 80", Check.STATE, x -> x.place(0, 79, 3));
        Warehouse.taken("a room of 80 for a most of 80", x -> x.place(0, 80, 3));
        Warehouse.taken("a room of 1 for a most of 0", x -> x.place(4, 1, 3));
        Warehouse.refused("the most that is told anew", Check.STATE, x -> x.face(4, 5, 0, 2), x -> x.place(4, 1, 3));
    }

    private static void order() {
        Check.refusalsInOrder(2);
        Warehouse.refused("no such zone, and it has more", Check.ARGUMENT, x -> x.place(14, 49, 4));
        Warehouse.refused("no such room, and it has more", Check.ARGUMENT, x -> x.place(14, 0, 2));
        Warehouse.refused("no such zone, and its most is more", Check.ARGUMENT, x -> x.place(0, 79, -1));
        Warehouse.refused("no such room, and its most is more", Check.ARGUMENT, x -> x.place(0, -5, 0));
    }
}
