/** The warehouse of the refusals is as its comment says, for else the tests that ask it would look elsewhere. */
public final class WarehouseTest {
    public static void main(String[] args) {
        ReplenishRules x = Warehouse.made();
        int[][] places = {{18, 0, 1, 1, 30, 80}, {52, 0, 2, 1, 20, 50}, {99, 0, 1, 1, 40, 90}, {9, 4, 0, 1, 10, 40},
            {0, 0, -1, 1, 0, 0}, {0, 0, -1, 0, 0, 0}, {0, 0, -1, 0, 0, 0}, {0, 0, -1, 0, 0, 0}, {25, 5, 1, 0, 0, 0},
            {70, 0, 1, 0, 0, 0}, {0, 0, -1, 0, 0, 0}, {15, 15, 2, 0, 0, 0}, {33, 0, 0, 0, 0, 0}, {0, 0, -1, 0, 0, 0},
            {50, 0, 7, 0, 0, 0}, {3, 0, 6, 1, 0, 0}};
        for (int place = 0; place < places.length; place++) {
            Check.told(x, place, places[place]);
        }
        Check.move(x, 0, 10, 1, 40, 6, 0, 1, 1);
        Check.move(x, 1, 8, 0, 20, 8, 1, 1, 0);
        Check.move(x, 2, 9, 0, 46, 8, 2, 0, 0);
        Check.move(x, 3, 12, 3, 33, 39, 3, 1, 0);
        Check.move(x, 4, 9, 2, 24, 2574, 4, 1, 0);
        Check.refused("move(5, 0)", Check.NO_ELEMENT, () -> x.move(5, 0));
        int[] thresholds = {40, 60, 182, 70, 0};
        for (int face = 0; face < thresholds.length; face++) {
            Check.due("threshold(" + face + ")", x.threshold(face), thresholds[face]);
        }
        Check.due("above(1)", x.above(1), true);
        Check.due("forecast(0), 55 * 3 * 3 / (26 * 2), up", x.forecast(0), 10);
        Check.finish();
    }
}
