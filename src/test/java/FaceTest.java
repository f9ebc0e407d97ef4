/** Promise 3: face. */
public final class FaceTest {
    public static void main(String[] args) {
        numbers();
        leastAndMost();
        mostAboveTheRoom();
        holdsAnother();
        toldAnew();
        usedAndWavesCountOn();
        order();
        Check.finish();
    }

    private static void numbers() {
        Check.says(3, "PLACES 0 .. 15");
        Warehouse.range("face(n, good, 5, 50)", 0, 15, (x, n) -> x.face(n, n == 0 ? 1 : 6, 5, 50));
        Check.says(3, "hold pieces of one good (0 .. 7) or none");
        Warehouse.range("face(4, n, 5, 50) of an empty place", 0, 7, (x, n) -> x.face(4, n, 5, 50));
        ReplenishRules x = new ReplenishRules();
        x.face(0, 7, 1, 2);
        Check.refused("good 6 to a face for 7", Check.STATE, () -> x.put(0, 6, 1));
        Check.taken("good 7 to a face for 7", () -> x.put(0, 7, 1));
        x.face(1, 0, 1, 2);
        Check.refused("good 1 to a face for 0", Check.STATE, () -> x.put(1, 1, 1));
        Check.taken("good 0 to a face for 0", () -> x.put(1, 0, 1));
    }

    private static void leastAndMost() {
        Check.says(3, "0 <= least <= most.");
        Warehouse.refused("least -1", Check.ARGUMENT, x -> x.face(0, 1, -1, 80));
        Warehouse.taken("least 0", x -> x.face(0, 1, 0, 80));
        Warehouse.taken("least at most", x -> x.face(0, 1, 80, 80));
        Warehouse.refused("least one above most", Check.ARGUMENT, x -> x.face(0, 1, 81, 80));
        Warehouse.taken("both 0", x -> x.face(0, 1, 0, 0));
        Warehouse.refused("least 1, most 0", Check.ARGUMENT, x -> x.face(0, 1, 1, 0));
        Warehouse.refused("both -1", Check.ARGUMENT, x -> x.face(0, 1, -1, -1));
        Warehouse.refused("least 0, most -1", Check.ARGUMENT, x -> x.face(0, 1, 0, -1));
        Warehouse.refused("the lowest least", Check.ARGUMENT, x -> x.face(0, 1, Integer.MIN_VALUE, 80));
        Warehouse.refused("the highest least", Check.ARGUMENT, x -> x.face(0, 1, Integer.MAX_VALUE, 80));
        Warehouse.refused("the lowest of both", Check.ARGUMENT,
            x -> x.face(0, 1, Integer.MIN_VALUE, Integer.MIN_VALUE));
    }

    private static void mostAboveTheRoom() {
        Check.says(3, "IllegalArgumentException: also most above the room");
        Warehouse.refused("most 101, room 100", Check.ARGUMENT, x -> x.face(0, 1, 30, 101));
        Warehouse.taken("most 100, room 100", x -> x.face(0, 1, 30, 100));
        Warehouse.refused("least and most 101, room 100", Check.ARGUMENT, x -> x.face(0, 1, 101, 101));
        Warehouse.taken("least and most 100, room 100", x -> x.face(0, 1, 100, 100));
        Warehouse.refused("most 2, room 1, of a reserve", Check.ARGUMENT, x -> x.face(13, 1, 0, 2));
        Warehouse.taken("most 1, room 1, of a reserve", x -> x.face(13, 1, 0, 1));
        Warehouse.refused("most 1001 by the first room", Check.ARGUMENT, x -> x.face(7, 1, 0, 1001));
        Warehouse.refused("the highest of both", Check.ARGUMENT,
            x -> x.face(0, 1, Integer.MAX_VALUE, Integer.MAX_VALUE));
        ReplenishRules x = new ReplenishRules();
        x.place(5, 100000, 0);
        Check.taken("the greatest most there is", () -> x.face(5, 0, 100000, 100000));
        Check.told(x, 5, 0, 0, -1, 1, 100000, 100000);
    }

    private static void holdsAnother() {
        Check.says(3, "IllegalStateException: it holds another good.");
        Warehouse.refused("of a reserve", Check.STATE, x -> x.face(8, 2, 5, 50));
        Warehouse.taken("of a reserve's own good", x -> x.face(8, 1, 5, 50));
        Warehouse.refused("of a face", Check.STATE, x -> x.face(0, 2, 5, 50));
        Warehouse.taken("of a face's own good", x -> x.face(0, 1, 5, 50));
        Warehouse.taken("of an empty reserve", x -> x.face(10, 7, 5, 50));
        Warehouse.taken("of an empty face", x -> x.face(4, 7, 5, 50));
        ReplenishRules x = new ReplenishRules();
        x.face(4, 3, 0, 5);
        x.put(4, 3, 2);
        x.use(4, 1);
        Check.refused("with one piece left", Check.STATE, () -> x.face(4, 2, 0, 5));
        x.use(4, 1);
        Check.taken("with none left", () -> x.face(4, 2, 0, 5));
        Check.refused("put of the good before", Check.STATE, () -> x.put(4, 3, 1));
        Check.taken("put of the good now", () -> x.put(4, 2, 1));
    }

    private static void toldAnew() {
        Check.says(3, "A place is a face for a good (told anew: instead");
        ReplenishRules x = new ReplenishRules();
        Check.told(x, 4, 0, 0, -1, 0, 0, 0);
        x.face(4, 3, 5, 50);
        x.put(4, 3, 7);
        Check.told(x, 4, 7, 0, 3, 1, 5, 50);
        x.face(4, 3, 6, 60);
        Check.told(x, 4, 7, 0, 3, 1, 6, 60);
        x.face(4, 3, 0, 1);
        Check.told(x, 4, 7, 0, 3, 1, 0, 1);
        Check.told(x, 5, 0, 0, -1, 0, 0, 0);
    }

    private static void usedAndWavesCountOn() {
        Check.says(3, "told anew: instead; what was used of it and what waves need of it count on), 0 <= least");
        countOn(1);
        Check.says(3, "USED is what was used of it on a day (of the place: also while it was a face for another good; "
            + "what waves need of it stays, too, when it is told anew).");
        countOn(2);
    }

    private static void countOn(int goodAnew) {
        ReplenishRules x = new ReplenishRules();
        x.face(0, 1, 0, 100);
        x.put(0, 1, 30);
        x.use(0, 20);
        x.use(0, 10);
        x.wave(0, 44, 1);
        x.face(0, goodAnew, 0, 90);
        x.put(0, goodAnew, 7);
        x.use(0, 3);
        x.rule(0, 1, 2, 399);
        x.day(1);
        Check.due("forecast", x.forecast(0), 66);
        Check.due("mean", x.mean(0, 1), 33);
        x.rule(0, 0, 1, 399);
        Check.due("threshold by the wave", x.threshold(0), 44);
        x.put(9, goodAnew, 100);
        Check.due("run()", x.run(), 1);
        Check.move(x, 0, 9, 0, 86, 0);
    }

    private static void order() {
        Check.refusalsInOrder(3);
        Warehouse.refused("no such good, not the one it holds", Check.ARGUMENT, x -> x.face(0, 8, 5, 50));
        Warehouse.refused("least above most, of another good", Check.ARGUMENT, x -> x.face(0, 2, 51, 50));
        Warehouse.refused("least below 0, of another good", Check.ARGUMENT, x -> x.face(0, 2, -1, 50));
        Warehouse.refused("most above the room, of another good", Check.ARGUMENT, x -> x.face(0, 2, 5, 101));
    }
}
