/** Promise 18: move. */
public final class MoveTest {
    public static void main(String[] args) {
        noSuchMove();
        noSuchNumber();
        ofAPlannedMove();
        nothingIsLeftFree();
        whetherItIsDone();
        asPlanned();
        order();
        Check.finish();
    }

    private static void noSuchMove() {
        Check.says(18, "NoSuchElementException, IllegalArgumentException.");
        int[] none = {-1, 5, 15, 29, 30, 31, Integer.MIN_VALUE, Integer.MAX_VALUE};
        for (int i : none) {
            Warehouse.refused("move(" + i + ", 0) of five", Check.NO_ELEMENT, x -> x.move(i, 0));
        }
        Warehouse.taken("the first of five", x -> x.move(0, 0));
        Warehouse.taken("the last of five", x -> x.move(4, 0));
        Check.says(18, "NoSuchElementException: a move that there is not");
        ReplenishRules x = new ReplenishRules();
        Check.refused("before a run", Check.NO_ELEMENT, () -> x.move(0, 0));
        x.run();
        Check.refused("of an empty plan", Check.NO_ELEMENT, () -> x.move(0, 0));
    }

    private static void noSuchNumber() {
        Check.says(18, "NoSuchElementException, IllegalArgumentException.");
        Warehouse.range("move(0, n)", 0, 6, (x, n) -> x.move(0, n));
        Warehouse.range("move(4, n)", 0, 6, (x, n) -> x.move(4, n));
    }

    private static void ofAPlannedMove() {
        Check.says(18, "Of a planned move 0 from where, 1 to which face, 2 how many, 3 its need time, 4 its trip, 5 "
            + "whether nothing of the reserve is left free then (as planned), 6 whether it is done.");
        ReplenishRules x = new ReplenishRules();
        x.place(3, 1000, 1);
        x.place(4, 1000, 1);
        x.face(3, 6, 30, 50);
        x.put(3, 6, 25);
        x.put(9, 6, 100);
        x.put(4, 6, 12);
        x.use(3, 5);
        x.day(4);
        Check.due("run()", x.run(), 2);
        Check.move(x, 0, 4, 3, 12, 16, 0, 1, 0);
        Check.move(x, 1, 9, 3, 18, 16, 1, 0, 0);
    }

    private static void nothingIsLeftFree() {
        Check.says(18, "5 whether nothing of the reserve is left free then (as planned)");
        ReplenishRules x = new ReplenishRules();
        x.face(0, 0, 10, 10);
        x.face(1, 0, 10, 10);
        x.put(5, 0, 21);
        x.run();
        Check.due("11 are left, 10 of them for the next move", x.move(0, 5), 0);
        Check.due("one is left", x.move(1, 5), 0);
        x.hold(5, 1);
        x.run();
        Check.due("10 are left for the next move", x.move(0, 5), 0);
        Check.due("only a held one is left", x.move(1, 5), 1);
        x.hold(5, 2);
        x.run();
        Check.due("9 are left for the next move", x.move(0, 5), 0);
        Check.due("fewer than wanted are taken", x.move(1, 5), 1);
    }

    private static void whetherItIsDone() {
        Check.says(18, "6 whether it is done.");
        ReplenishRules x = Warehouse.made();
        int[] done = {1, 0, 0, 0, 0};
        for (int i = 0; i < done.length; i++) {
            Check.due("move(" + i + ", 6)", x.move(i, 6), done[i]);
        }
        x.done(3);
        Check.due("move(3, 6)", x.move(3, 6), 1);
        Check.due("move(2, 6)", x.move(2, 6), 0);
        x.run();
        Check.due("a move planned anew", x.move(0, 6), 0);
        Check.due("another move planned anew", x.move(2, 6), 0);
    }

    private static void asPlanned() {
        Check.says(18, "is left free then (as planned)");
        ReplenishRules x = Warehouse.made();
        x.put(8, 1, 9);
        x.hold(9, 70);
        x.hold(12, 33);
        x.place(8, 300, 3);
        x.face(0, 1, 0, 0);
        x.use(0, 11);
        x.cases(1, 1000);
        x.day(399);
        Check.move(x, 0, 10, 1, 40, 6, 0, 1, 1);
        Check.move(x, 1, 8, 0, 20, 8, 1, 1, 0);
        Check.move(x, 2, 9, 0, 46, 8, 2, 0, 0);
        Check.move(x, 3, 12, 3, 33, 39, 3, 1, 0);
        Check.move(x, 4, 9, 2, 24, 2574, 4, 1, 0);
    }

    private static void order() {
        Check.refusalsInOrder(18);
        Warehouse.refused("no such move, no such number", Check.NO_ELEMENT, x -> x.move(5, 7));
        Warehouse.refused("no such move, no such number", Check.NO_ELEMENT, x -> x.move(-1, -1));
    }
}
