/** Promise 5: use. */
public final class UseTest {
    public static void main(String[] args) {
        numbers();
        today();
        noFace();
        notSoMany();
        order();
        Check.finish();
    }

    private static void numbers() {
        Check.says(5, "PLACES 0 .. 15");
        Warehouse.range("use(n, 1)", 0, 15, (x, n) -> x.use(n, 1));
        Check.says(5, "Pieces (1 .. 100000) are used from a face today.");
        Warehouse.range("use(4, n)", 1, 100000, (x, n) -> {
            if (n == 1 || n == 100000) {
                x.place(4, 100000, 0);
                x.put(4, 5, 100000);
            }
            x.use(4, n);
        });
    }

    private static void today() {
        Check.says(5, "Pieces (1 .. 100000) are used from a face today.");
        ReplenishRules x = new ReplenishRules();
        x.face(3, 2, 0, 10);
        x.put(3, 2, 10);
        x.day(5);
        x.use(3, 4);
        x.use(3, 2);
        Check.told(x, 3, 4, 0, 2, 1, 0, 10);
        Check.due("today is not before today", x.mean(3, 5), 0);
        x.day(6);
        Check.due("used on day 5", x.mean(3, 1), 6);
        x.use(3, 4);
        Check.told(x, 3, 0, 0, -1, 1, 0, 10);
        x.day(7);
        Check.due("used on day 6", x.mean(3, 1), 4);
        x.day(8);
        Check.due("used on day 7", x.mean(3, 1), 0);
    }

    private static void noFace() {
        Check.says(5, "IllegalStateException: it is no face");
        Warehouse.refused("of a reserve", Check.STATE, x -> x.use(9, 1));
        Warehouse.refused("of an empty reserve", Check.STATE, x -> x.use(5, 1));
    }

    private static void notSoMany() {
        Check.says(5, "it is no face, or has not so many that are not held.");
        Warehouse.refused("one of an empty face", Check.STATE, x -> x.use(4, 1));
        Warehouse.refused("19 of 18", Check.STATE, x -> x.use(0, 19));
        Warehouse.refused("100000 of 18", Check.STATE, x -> x.use(0, 100000));
        Warehouse.taken("18 of 18", x -> x.use(0, 18));
        Warehouse.refused("6 of 9, of them 4 held", Check.STATE, x -> x.use(3, 6));
        Warehouse.refused("9 of 9, of them 4 held", Check.STATE, x -> x.use(3, 9));
        Warehouse.refused("one of 9, all held", Check.STATE, x -> x.hold(3, 9), x -> x.use(3, 1));
        ReplenishRules x = Warehouse.made();
        Check.taken("5 of 9, of them 4 held", () -> x.use(3, 5));
        Check.told(x, 3, 4, 4, 0, 1, 10, 40);
    }

    private static void order() {
        Check.refusalsInOrder(5);
        Warehouse.refused("no such number, of no face", Check.ARGUMENT, x -> x.use(9, 0));
        Warehouse.refused("no such number, more than there are", Check.ARGUMENT, x -> x.use(0, 100001));
        Warehouse.refused("no such number, of an empty face", Check.ARGUMENT, x -> x.use(4, -1));
    }
}
