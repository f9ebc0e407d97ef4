/** Promise 1: a new object, and what the terms say is so at first. */
public final class NewObjectTest {
    public static void main(String[] args) {
        placesAreEmpty();
        nothingIsPlanned();
        dayZero();
        openAtFirst();
        firstRoom();
        firstZone();
        firstRuleAndFactor();
        firstCases();
        used512Times();
        objectsAreApart();
        Check.finish();
    }

    private static void placesAreEmpty() {
        Check.says(1, "Empty places, no faces");
        ReplenishRules x = new ReplenishRules();
        for (int place = 0; place < 16; place++) {
            int p = place;
            Check.told(x, place, 0, 0, -1, 0, 0, 0);
            Check.refused("forecast(" + place + ")", Check.STATE, () -> x.forecast(p));
            Check.refused("hold(" + place + ", 1)", Check.STATE, () -> x.hold(p, 1));
        }
    }

    private static void nothingIsPlanned() {
        Check.says(1, "Empty places, no faces; day 0.");
        ReplenishRules x = new ReplenishRules();
        Check.refused("move(0, 0) before a run", Check.NO_ELEMENT, () -> x.move(0, 0));
        Check.refused("done(0) before a run", Check.NO_ELEMENT, () -> x.done(0));
        Check.due("run()", x.run(), 0);
        Check.refused("move(0, 0) of an empty plan", Check.NO_ELEMENT, () -> x.move(0, 0));
    }

    private static void dayZero() {
        Check.says(1, "DAYS are 0 .. 399; it is one of them (0 at first)");
        ReplenishRules x = new ReplenishRules();
        x.face(0, 0, 0, 0);
        Check.refused("no day was before", Check.ARITHMETIC, () -> x.mean(0, 60));
        Check.taken("open(0, true)", () -> x.open(0, true));
        Check.taken("wave(0, 1, 0)", () -> x.wave(0, 1, 0));
        Check.taken("day(0)", () -> x.day(0));
    }

    private static void openAtFirst() {
        Check.says(1, "a day is OPEN or closed (open at first)");
        ReplenishRules x = new ReplenishRules();
        x.face(0, 0, 0, 0);
        x.put(0, 0, 60);
        Check.due("run() on day 0", x.run(), 0);
        x.use(0, 60);
        x.day(60);
        Check.due("60 open days", x.mean(0, 60), 1);
        x.day(399);
        Check.due("run() on day 399", x.run(), 0);
    }

    private static void firstRoom() {
        Check.says(1, "PLACES 0 .. 15 have room for so many pieces (1000 at first)");
        ReplenishRules x = new ReplenishRules();
        for (int place = 0; place < 16; place++) {
            int p = place;
            Check.refused("1001 to place " + p, Check.NO_ROOM, () -> x.put(p, 0, 1001));
            Check.refused("face(" + p + ", 0, 0, 1001)", Check.ARGUMENT, () -> x.face(p, 0, 0, 1001));
            Check.taken("1000 to place " + p, () -> x.put(p, 0, 1000));
            Check.taken("face(" + p + ", 0, 0, 1000)", () -> x.face(p, 0, 0, 1000));
        }
    }

    private static void firstZone() {
        Check.says(1, "a zone 0 .. 3 (0 at first)");
        ReplenishRules x = new ReplenishRules();
        x.rule(0, 0, 2, 399);
        for (int place = 0; place < 16; place++) {
            x.face(place, 0, 0, 0);
            x.wave(place, 5, 2);
            Check.due("threshold(" + place + ") by zone 0's rule", x.threshold(place), 5);
        }
        ReplenishRules y = new ReplenishRules();
        y.place(4, 1000, 0);
        y.put(3, 0, 10);
        y.put(4, 0, 10);
        y.face(0, 0, 5, 20);
        Check.due("run()", y.run(), 2);
        Check.move(y, 0, 3, 0, 10, 9999, 0, 1);
        Check.move(y, 1, 4, 0, 10, 9999, 0, 1);
    }

    private static void firstRuleAndFactor() {
        Check.says(1, "FIXED with 1 day ahead at first.");
        ReplenishRules x = new ReplenishRules();
        x.face(0, 7, 0, 33);
        x.put(0, 7, 40);
        x.use(0, 20);
        x.day(1);
        Check.due("forecast(0)", x.forecast(0), 0);
        x.wave(0, 5, 2);
        x.wave(0, 70, 3);
        Check.due("threshold(0)", x.threshold(0), 5);
        Check.says(1, "UP and DOWN are the month's factor (1 and 1 at first).");
        x.rule(0, 1, 1, 399);
        Check.due("forecast(0) by USAGE", x.forecast(0), 20);
    }

    private static void firstCases() {
        Check.says(1, "A good comes in CASES of so many pieces (1 at first).");
        for (int good = 0; good < 8; good++) {
            ReplenishRules x = new ReplenishRules();
            x.face(0, good, 13, 13);
            x.put(1, good, 500);
            Check.runPlans("good " + good, x, 13);
        }
    }

    private static void used512Times() {
        Check.says(1, "An object is used for at most 512 calls after it has been made");
        ReplenishRules x = new ReplenishRules();
        x.face(0, 0, 1, 1000);
        for (int i = 0; i < 255; i++) {
            x.put(0, 0, 3);
            x.use(0, 2);
        }
        Check.due("the 512th call", x.told(0, 0), 255);
    }

    private static void objectsAreApart() {
        Check.says(1, "Empty places, no faces; day 0.");
        ReplenishRules x = new ReplenishRules();
        x.put(0, 1, 5);
        x.day(9);
        ReplenishRules y = new ReplenishRules();
        Check.pieces(y, 0, 0);
        Check.taken("day(0) of another object", () -> y.day(0));
        Check.pieces(x, 0, 5);
    }
}
