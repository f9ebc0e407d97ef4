/** Promise 6: hold. */
public final class HoldTest {
    public static void main(String[] args) {
        numbers();
        notSoMany();
        insteadOfWhatWas();
        heldOnesAreNotFree();
        order();
        Check.finish();
    }

    private static void numbers() {
        Check.says(6, "PLACES 0 .. 15");
        Warehouse.range("hold(n, 1)", 0, 15, (x, n) -> x.hold(n, 1));
        Check.says(6, "IllegalArgumentException: below 0");
        Warehouse.refused("-1", Check.ARGUMENT, x -> x.hold(8, -1));
        Warehouse.refused("the lowest number", Check.ARGUMENT, x -> x.hold(8, Integer.MIN_VALUE));
        Warehouse.taken("0", x -> x.hold(8, 0));
        Warehouse.taken("0 of none", x -> x.hold(5, 0));
    }

    private static void notSoMany() {
        Check.says(6, "IllegalStateException: it has not so many.");
        Warehouse.refused("26 of 25", Check.STATE, x -> x.hold(8, 26));
        Warehouse.taken("25 of 25", x -> x.hold(8, 25));
        Warehouse.refused("100001 of 25", Check.STATE, x -> x.hold(8, 100001));
        Warehouse.refused("the highest number", Check.STATE, x -> x.hold(8, Integer.MAX_VALUE));
        Warehouse.refused("1 of none", Check.STATE, x -> x.hold(5, 1));
        Warehouse.refused("10 of a face's 9", Check.STATE, x -> x.hold(3, 10));
        Warehouse.taken("all of a face's 9", x -> x.hold(3, 9));
    }

    private static void insteadOfWhatWas() {
        Check.says(6, "So many pieces of a place are held (instead of what was).");
        ReplenishRules x = new ReplenishRules();
        x.put(0, 0, 10);
        x.hold(0, 10);
        Check.told(x, 0, 10, 10, 0);
        x.hold(0, 3);
        Check.told(x, 0, 10, 3, 0);
        x.hold(0, 8);
        Check.told(x, 0, 10, 8, 0);
        x.hold(0, 0);
        Check.told(x, 0, 10, 0, 0);
        Check.told(x, 1, 0, 0, -1);
    }

    private static void heldOnesAreNotFree() {
        Check.says(6, "some pieces may be HELD.");
        ReplenishRules x = new ReplenishRules();
        x.put(0, 0, 10);
        x.face(1, 0, 20, 20);
        x.hold(0, 9);
        Check.runPlans("one is not held", x, 1);
        x.hold(0, 10);
        Check.runPlans("all are held", x, 0);
        x.hold(0, 0);
        Check.runPlans("none is held", x, 10);
    }

    private static void order() {
        Check.refusalsInOrder(6);
        Warehouse.refused("below 0 of none", Check.ARGUMENT, x -> x.hold(5, -1));
        Warehouse.refused("no such place, and more than there are", Check.ARGUMENT, x -> x.hold(16, 26));
    }
}
