/** Promise 20: told. */
public final class ToldTest {
    public static void main(String[] args) {
        numbers();
        ofAPlace();
        ifItIsNone();
        Check.refusalsInOrder(20);
        Warehouse.refused("neither number is one", Check.ARGUMENT, x -> x.told(16, 6));
        Check.finish();
    }

    private static void numbers() {
        Check.says(20, "PLACES 0 .. 15");
        for (int what = 0; what < 6; what++) {
            int w = what;
            Warehouse.range("told(n, " + w + ")", 0, 15, (x, n) -> x.told(n, w));
        }
        Check.says(20, "5 its most (0 if it is none). IllegalArgumentException.");
        Warehouse.range("told(0, n)", 0, 5, (x, n) -> x.told(0, n));
        Warehouse.range("told(15, n)", 0, 5, (x, n) -> x.told(15, n));
    }

    private static void ofAPlace() {
        Check.says(20, "Of a place 0 its pieces, 1 held ones, 2 the good (-1 none), 3 whether it is a face, 4 its "
            + "least, 5 its most");
        ReplenishRules x = new ReplenishRules();
        x.put(15, 0, 44);
        x.hold(15, 4);
        Check.told(x, 15, 44, 4, 0, 0, 0, 0);
        x.face(15, 0, 3, 9);
        Check.told(x, 15, 44, 4, 0, 1, 3, 9);
        x.hold(15, 0);
        x.use(15, 43);
        Check.told(x, 15, 1, 0, 0, 1, 3, 9);
        x.use(15, 1);
        Check.told(x, 15, 0, 0, -1, 1, 3, 9);
        x.put(14, 7, 1000);
        x.hold(14, 1000);
        Check.told(x, 14, 1000, 1000, 7, 0, 0, 0);
    }

    private static void ifItIsNone() {
        Check.says(20, "(0 if it is none)");
        ReplenishRules x = new ReplenishRules();
        x.put(1, 3, 5);
        Check.told(x, 1, 5, 0, 3, 0, 0, 0);
        Check.told(x, 0, 0, 0, -1, 0, 0, 0);
        x.face(0, 7, 0, 0);
        Check.told(x, 0, 0, 0, -1, 1, 0, 0);
    }
}
