/** Promise 17: run; the moves themselves by promise 18. */
public final class RunTest {
    public static void main(String[] args) {
        belowTheThreshold();
        toMostOrThreshold();
        fullCases();
        needTimes();
        reservesOfItsGood();
        freePieces();
        trips();
        plansAnew();
        Check.finish();
    }

    private static void belowTheThreshold() {
        ReplenishRules x = new ReplenishRules();
        x.face(0, 0, 10, 30);
        x.put(0, 0, 10);
        x.put(1, 0, 100);
        Check.due("at the threshold", x.run(), 0);
        x.use(0, 1);
        Check.due("below the threshold", x.run(), 1);
        Check.move(x, 0, 1, 0, 21, 9999, 0, 0);
        heldOnesArePiecesOfTheFace();
    }

    private static void heldOnesArePiecesOfTheFace() {
        ReplenishRules x = new ReplenishRules();
        x.face(0, 0, 10, 30);
        x.put(0, 0, 12);
        x.put(1, 0, 100);
        x.use(0, 2);
        x.hold(0, 9);
        x.day(1);
        Check.due("held ones count to the threshold", x.run(), 0);
        x.use(0, 1);
        Check.due("below the threshold", x.run(), 1);
        Check.move(x, 0, 1, 0, 21, 4);
    }

    private static void toMostOrThreshold() {
        ReplenishRules x = new ReplenishRules();
        x.place(0, 60, 0);
        x.face(0, 0, 10, 30);
        x.put(1, 0, 1000);
        x.wave(0, 40, 0);
        x.run();
        Check.move(x, 0, 1, 0, 40);
        x.wave(0, 40, 0);
        x.run();
        Check.move(x, 0, 1, 0, 60);
    }

    private static void fullCases() {
        ReplenishRules x = new ReplenishRules();
        x.place(0, 24, 0);
        x.face(0, 2, 20, 20);
        x.put(1, 2, 100);
        x.cases(2, 12);
        x.run();
        Check.move(x, 0, 1, 0, 24);
        x.place(0, 23, 0);
        x.run();
        Check.move(x, 0, 1, 0, 12);
        x.put(0, 2, 9);
        Check.due("11 are missing, 14 are room", planned(x), 12);
        x.put(0, 2, 3);
        Check.due("8 are missing, 11 are room: nothing is wanted", x.run(), 0);
        x.cases(2, 4);
        Check.due("8 are two cases", planned(x), 8);
    }

    private static int planned(ReplenishRules x) {
        return x.run() == 0 ? 0 : x.move(0, 2);
    }

    private static void needTimes() {
        ReplenishRules x = new ReplenishRules();
        for (int p = 0; p < 5; p++) {
            x.face(p, 1, 90, 100);
            x.put(p, 1, 80);
        }
        x.put(9, 1, 1000);
        x.use(1, 10);
        x.use(2, 20);
        x.open(1, false);
        x.day(1);
        x.use(0, 30);
        x.day(3);
        x.use(4, 20);
        Check.due("run()", x.run(), 5);
        // Two open past days: 60 * 2 / 20, 70 * 2 / 10; a closed day's use and today's are not counted.
        Check.move(x, 0, 9, 2, 40, 6, 0, 0);
        Check.move(x, 1, 9, 1, 30, 14, 0, 0);
        Check.move(x, 2, 9, 0, 50, 9999, 0, 0);
        Check.move(x, 3, 9, 3, 20, 9999, 1, 0);
        Check.move(x, 4, 9, 4, 40, 9999, 1, 0);
        x.day(4);
        x.run();
        // Three open past days: 60 * 3 / 20 = 9 for the faces 2 and 4, by number.
        Check.move(x, 0, 9, 2, 40, 9);
        Check.move(x, 1, 9, 4, 40, 9);
        Check.move(x, 2, 9, 1, 30, 21);
        farNeedTime();
    }

    private static void farNeedTime() {
        ReplenishRules x = new ReplenishRules();
        x.place(0, 100000, 0);
        x.face(0, 0, 100000, 100000);
        x.face(1, 0, 1, 1);
        x.put(2, 0, 1000);
        x.put(0, 0, 50001);
        x.use(0, 3);
        x.day(1);
        Check.due("run()", x.run(), 2);
        Check.move(x, 0, 2, 1, 1, 9999);
        Check.move(x, 1, 2, 0, 999, 16666);
    }

    private static void reservesOfItsGood() {
        ReplenishRules x = new ReplenishRules();
        x.place(8, 1000, 2);
        x.face(8, 3, 50, 50);
        x.put(0, 3, 5);
        x.put(1, 4, 100);
        x.place(2, 1000, 1);
        x.put(2, 3, 6);
        x.place(11, 1000, 2);
        x.put(11, 3, 7);
        x.place(10, 1000, 2);
        x.put(10, 3, 8);
        x.face(12, 3, 0, 10);
        x.put(12, 3, 9);
        x.put(15, 3, 10);
        Check.due("run()", x.run(), 5);
        Check.move(x, 0, 10, 8, 8, 9999, 0, 1);
        Check.move(x, 1, 11, 8, 7, 9999, 0, 1);
        Check.move(x, 2, 0, 8, 5, 9999, 1, 1);
        Check.move(x, 3, 2, 8, 6, 9999, 2, 1);
        Check.move(x, 4, 15, 8, 10, 9999, 3, 1);
    }

    private static void freePieces() {
        ReplenishRules x = new ReplenishRules();
        x.face(0, 0, 30, 30);
        x.face(1, 0, 20, 20);
        x.face(2, 0, 20, 20);
        x.put(5, 0, 40);
        x.hold(5, 5);
        x.put(6, 0, 15);
        x.put(7, 0, 3);
        x.hold(7, 3);
        Check.due("run()", x.run(), 3);
        Check.move(x, 0, 5, 0, 30, 9999, 0, 0);
        Check.move(x, 1, 5, 1, 5, 9999, 0, 1);
        Check.move(x, 2, 6, 1, 15, 9999, 0, 1);
    }

    private static void trips() {
        ReplenishRules x = new ReplenishRules();
        x.face(0, 0, 900, 900);
        for (int p = 1; p < 16; p++) {
            x.place(p, 1000, p < 8 ? 0 : p % 2 + 1);
            x.put(p, 0, 10);
        }
        Check.due("run()", x.run(), 15);
        int[] trips = {0, 0, 0, 1, 1, 1, 2, 3, 4, 5, 6, 7, 8, 9, 10};
        for (int i = 0; i < trips.length; i++) {
            Check.move(x, i, i + 1, 0, 10, 9999, trips[i], 1);
        }
    }

    private static void plansAnew() {
        ReplenishRules x = new ReplenishRules();
        x.face(0, 0, 10, 10);
        x.put(1, 0, 4);
        x.put(2, 0, 20);
        Check.due("run()", x.run(), 2);
        x.open(0, false);
        Check.refused("today is closed", Check.STATE, () -> x.run());
        Check.move(x, 1, 2, 0, 6, 9999, 0, 0);
        x.done(1);
        x.open(0, true);
        Check.due("run() again", x.run(), 1);
        Check.move(x, 0, 1, 0, 4, 9999, 0, 1, 0);
        Check.refused("the plan before is gone", Check.NO_ELEMENT, () -> x.move(1, 0));
        x.done(0);
        Check.due("nothing is wanted", x.run(), 0);
        Check.refused("no move is left", Check.NO_ELEMENT, () -> x.done(0));
        x.use(0, 10);
        Check.due("a run after uses", x.run(), 1);
        Check.move(x, 0, 2, 0, 10, 9999, 0, 0, 0);
    }
}
