/** Promise 17: run; what is planned is asked by promise 18. */
public final class RunTest {
    public static void main(String[] args) {
        todayIsClosed();
        howMany();
        fewerThanItsThreshold();
        heldOnesArePiecesOfTheFace();
        missingToMost();
        missingToTheThreshold();
        fullCases();
        wantNothing();
        needTime();
        neverEmpty();
        byNeedTime();
        ofEqualOnesByNumber();
        reservesOfItsGood();
        freePieces();
        itsZoneFirst();
        asMuchAsItHasAndIsWanted();
        trips();
        tripsOverFaces();
        mostMoves();
        plansAnew();
        Check.finish();
    }

    private static void todayIsClosed() {
        Check.says(17, "IllegalStateException: today is closed.");
        Warehouse.refused("today is closed", Check.STATE, x -> x.open(45, false), x -> x.run());
        Warehouse.refused("a closed day that it is now", Check.STATE, x -> x.day(50), x -> x.run());
        Warehouse.taken("yesterday was closed", x -> {
            x.day(51);
            x.run();
        });
        Warehouse.taken("today is opened again", x -> {
            x.open(45, false);
            x.open(45, true);
            x.run();
        });
        Check.refusalsInOrder(17);
        Warehouse.refused("today is closed, though nothing is wanted", Check.STATE, x -> {
            x.day(200);
            x.open(200, false);
        }, x -> x.run());
    }

    private static void howMany() {
        Check.says(17, "A run: how many moves are planned.");
        ReplenishRules x = new ReplenishRules();
        Check.due("no face", x.run(), 0);
        x.face(0, 0, 10, 10);
        Check.due("no reserve", x.run(), 0);
        x.put(1, 0, 4);
        Check.due("one reserve", x.run(), 1);
        x.put(2, 0, 4);
        Check.due("two reserves", x.run(), 2);
        x.put(3, 0, 4);
        Check.due("three reserves", x.run(), 3);
        x.put(4, 0, 4);
        Check.due("a fourth one is not needed", x.run(), 3);
    }

    private static void fewerThanItsThreshold() {
        Check.says(17, "Each face with fewer pieces than its threshold WANTS what is missing");
        ReplenishRules x = new ReplenishRules();
        x.face(0, 0, 10, 30);
        x.put(0, 0, 11);
        x.put(1, 0, 100);
        Check.runPlans("one above the threshold", x, 0);
        x.use(0, 1);
        Check.runPlans("at the threshold", x, 0);
        x.use(0, 1);
        Check.runPlans("one below the threshold", x, 21);
        x.use(0, 9);
        Check.runPlans("empty", x, 30);
        x.face(0, 0, 0, 30);
        Check.runPlans("empty, but the threshold is 0", x, 0);
        x.face(0, 0, 1, 30);
        Check.runPlans("empty, and the threshold is 1", x, 30);
    }

    private static void heldOnesArePiecesOfTheFace() {
        Check.says(17, "Each face with fewer pieces than its threshold WANTS what is missing");
        ReplenishRules x = new ReplenishRules();
        x.face(0, 0, 10, 30);
        x.put(0, 0, 12);
        x.put(1, 0, 100);
        x.use(0, 2);
        x.hold(0, 9);
        x.day(1);
        Check.runPlans("held ones count to the threshold", x, 0);
        x.use(0, 1);
        Check.runPlans("below the threshold", x, 21);
        Check.move(x, 0, 1, 0, 21, 4);
    }

    private static void missingToMost() {
        Check.says(17, "WANTS what is missing to most, or to the threshold if that is more");
        ReplenishRules x = new ReplenishRules();
        x.face(0, 0, 10, 40);
        x.put(0, 0, 5);
        x.put(1, 0, 1000);
        Check.runPlans("most above the threshold", x, 35);
        x.wave(0, 40, 0);
        Check.runPlans("most at the threshold", x, 35);
        x.wave(0, 1, 0);
        Check.runPlans("most one below the threshold", x, 36);
        x.face(0, 0, 0, 0);
        Check.runPlans("most 0", x, 36);
    }

    private static void missingToTheThreshold() {
        Check.says(17, "or to the threshold if that is more (but not above the room)");
        ReplenishRules x = new ReplenishRules();
        x.place(0, 60, 0);
        x.face(0, 0, 10, 30);
        x.put(0, 0, 5);
        x.put(1, 0, 1000);
        x.wave(0, 59, 0);
        Check.runPlans("one below the room", x, 54);
        x.wave(0, 1, 0);
        Check.runPlans("at the room", x, 55);
        x.wave(0, 900, 0);
        Check.runPlans("above the room", x, 55);
        x.put(0, 0, 54);
        Check.runPlans("room for one", x, 1);
        x.put(0, 0, 1);
        Check.runPlans("a full face", x, 0);
    }

    private static void fullCases() {
        Check.says(17, "in full cases, one more if it doesn't come out even and there is room for it, else one less");
        ReplenishRules x = new ReplenishRules();
        x.place(0, 24, 0);
        x.face(0, 2, 20, 20);
        x.put(1, 2, 100);
        x.cases(2, 10);
        Check.runPlans("20 come out even in tens", x, 20);
        x.cases(2, 12);
        Check.runPlans("20 in twelves, just room for 24", x, 24);
        x.place(0, 23, 0);
        Check.runPlans("20 in twelves, room for 23", x, 12);
        x.cases(2, 19);
        Check.runPlans("20 in nineteens, one too many for one case", x, 19);
        x.cases(2, 21);
        Check.runPlans("20 in twenty-ones, one too few for one case", x, 21);
        x.place(0, 20, 0);
        x.cases(2, 20);
        Check.runPlans("20 come out even in one case that fills the room", x, 20);
        x.place(0, 23, 0);
        x.cases(2, 12);
        x.put(0, 2, 9);
        Check.runPlans("11 in twelves, room for 14", x, 12);
        x.put(0, 2, 2);
        Check.runPlans("9 in twelves, room for 12", x, 12);
        x.put(0, 2, 1);
        Check.runPlans("8 in twelves, room for 11", x, 0);
        x.cases(2, 4);
        Check.runPlans("8 in fours", x, 8);
        x.hold(1, 93);
        Check.runPlans("7 are free, though that is no full case", x, 7);
    }

    private static void wantNothing() {
        Check.says(17, "faces that want nothing are left.");
        ReplenishRules x = new ReplenishRules();
        x.place(0, 5, 0);
        x.cases(1, 6);
        x.face(0, 1, 5, 5);
        x.face(2, 1, 5, 5);
        x.put(9, 1, 6);
        Check.due("face 0 has no room for a case, face 2 has", x.run(), 1);
        Check.move(x, 0, 9, 2, 6, 9999, 0, 1, 0);
    }

    private static void needTime() {
        Check.says(17, "NEED TIME: the pieces times the past days, divided by the sum of what was used on them, rests "
            + "dropped");
        ReplenishRules x = new ReplenishRules();
        x.face(0, 0, 90, 90);
        x.put(0, 0, 20);
        x.put(9, 0, 100);
        x.use(0, 3);
        x.day(1);
        dueNeedTime("17 * 1 / 3", x, 5);
        x.use(0, 4);
        x.day(2);
        dueNeedTime("13 * 2 / 7, yesterday counts", x, 3);
        x.open(2, false);
        x.use(0, 6);
        x.day(3);
        dueNeedTime("7 * 2 / 7, a closed day does not count", x, 2);
        x.use(0, 1);
        dueNeedTime("6 * 2 / 7, today does not count", x, 1);
        x.day(28);
        dueNeedTime("6 * 27 / 8, day 0 is the 28th before", x, 20);
        x.day(29);
        dueNeedTime("6 * 27 / 5, day 0 is the 29th before", x, 32);
        x.use(0, 6);
        dueNeedTime("an empty face: 0 * 27 / 5", x, 0);
        x.place(1, 100000, 0);
        x.face(1, 1, 100000, 100000);
        x.put(1, 1, 100000);
        x.put(10, 1, 1);
        x.use(1, 1);
        x.day(57);
        Check.due("run()", x.run(), 2);
        Check.move(x, 1, 10, 1, 1, 99999 * 28);
    }

    private static void dueNeedTime(String call, ReplenishRules x, int want) {
        x.run();
        Check.due(call, x.move(0, 3), want);
    }

    private static void neverEmpty() {
        Check.says(17, "9999 if that sum is 0.");
        ReplenishRules x = new ReplenishRules();
        x.face(0, 0, 90, 90);
        x.put(9, 0, 500);
        x.run();
        Check.move(x, 0, 9, 0, 90, 9999);
        x.put(0, 0, 10);
        x.open(0, false);
        x.use(0, 1);
        x.day(1);
        x.run();
        Check.move(x, 0, 9, 0, 81, 9999);
        x.use(0, 1);
        x.run();
        Check.move(x, 0, 9, 0, 82, 9999);
        x.day(2);
        x.run();
        Check.move(x, 0, 9, 0, 82, 8);
        x.day(29);
        x.run();
        Check.move(x, 0, 9, 0, 82, 224);
        x.day(30);
        x.run();
        Check.move(x, 0, 9, 0, 82, 9999);
    }

    private static void byNeedTime() {
        Check.says(17, "Faces are gone through by need time");
        ReplenishRules x = new ReplenishRules();
        x.place(3, 100000, 0);
        int[] used = {10, 20, 0, 1, 80};
        for (int face = 0; face < 5; face++) {
            int pieces = face == 3 ? 20000 : 80;
            x.face(face, 1, face == 3 ? 20010 : 90, face == 3 ? 20010 : 90);
            x.put(face, 1, pieces);
            if (used[face] > 0) {
                x.use(face, used[face]);
            }
        }
        x.put(9, 1, 1000);
        x.day(1);
        Check.due("run()", x.run(), 5);
        Check.move(x, 0, 9, 4, 90, 0);
        Check.move(x, 1, 9, 1, 30, 3);
        Check.move(x, 2, 9, 0, 20, 7);
        Check.move(x, 3, 9, 2, 10, 9999);
        Check.move(x, 4, 9, 3, 11, 19999);
    }

    private static void ofEqualOnesByNumber() {
        Check.says(17, "of equal ones by number; each takes");
        ReplenishRules x = new ReplenishRules();
        int[] faces = {15, 3, 8, 0, 7};
        for (int face : faces) {
            x.face(face, 1, 9, 9);
        }
        x.put(3, 1, 7);
        x.use(3, 1);
        x.put(8, 1, 7);
        x.use(8, 1);
        x.put(5, 1, 1000);
        x.day(1);
        Check.due("run()", x.run(), 5);
        int[] order = {3, 8, 0, 7, 15};
        for (int i = 0; i < order.length; i++) {
            Check.move(x, i, 5, order[i]);
        }
    }

    private static void reservesOfItsGood() {
        Check.says(17, "A place may be a FACE for a good with LEAST and MOST; others are RESERVES.");
        ReplenishRules x = new ReplenishRules();
        x.face(8, 3, 50, 50);
        x.put(1, 4, 100);
        x.face(12, 3, 0, 10);
        x.put(12, 3, 900);
        Check.due("one of another good, and a face of its good", x.run(), 0);
        x.put(15, 3, 10);
        x.put(0, 3, 10);
        Check.due("two reserves of its good", x.run(), 2);
        Check.move(x, 0, 0, 8, 10, 9999, 0, 1, 0);
        Check.move(x, 1, 15, 8, 10, 9999, 0, 1, 0);
        x.face(0, 3, 0, 0);
        Check.due("one of them is a face now", x.run(), 1);
        Check.move(x, 0, 15, 8, 10, 9999, 0, 1, 0);
    }

    private static void freePieces() {
        Check.says(17, "each takes from the reserves of its good that have free pieces (not held, not planned in this "
            + "run)");
        ReplenishRules x = new ReplenishRules();
        x.face(0, 0, 30, 30);
        x.face(1, 0, 20, 20);
        x.face(2, 0, 20, 20);
        x.put(5, 0, 40);
        x.hold(5, 5);
        x.put(6, 0, 15);
        x.put(7, 0, 3);
        x.hold(7, 3);
        Check.due("run()", x.run(), 3);
        Check.move(x, 0, 5, 0, 30, 9999, 0, 0);
        Check.move(x, 1, 5, 1, 5, 9999, 0, 1);
        Check.move(x, 2, 6, 1, 15, 9999, 0, 1);
        x.hold(7, 2);
        Check.due("the run before does not count, and one more is free", x.run(), 4);
        Check.move(x, 3, 7, 2, 1, 9999, 1, 1);
    }

    private static void itsZoneFirst() {
        Check.says(17, "those of its zone first, of equal ones by number; from each");
        ReplenishRules x = new ReplenishRules();
        int[] zones = {0, 1, 3, 2, 2, 3, 1, 0};
        for (int i = 0; i < zones.length; i++) {
            x.place(i, 1000, zones[i]);
            x.put(i, 3, 10 + i);
        }
        x.place(8, 1000, 2);
        x.face(8, 3, 500, 500);
        Check.due("run()", x.run(), 8);
        int[] from = {3, 4, 0, 1, 2, 5, 6, 7};
        int[] trips = {0, 0, 1, 2, 3, 3, 4, 5};
        for (int i = 0; i < from.length; i++) {
            Check.move(x, i, from[i], 8, 10 + from[i], 9999, trips[i], 1);
        }
        x.place(8, 1000, 0);
        x.run();
        Check.move(x, 0, 0);
        Check.move(x, 1, 7);
        Check.move(x, 2, 1);
    }

    private static void asMuchAsItHasAndIsWanted() {
        Check.says(17, "from each as much as it has and is wanted: a MOVE.");
        ReplenishRules x = new ReplenishRules();
        x.face(0, 0, 30, 30);
        x.put(1, 0, 29);
        x.put(2, 0, 1);
        x.put(3, 0, 1);
        Check.due("29 and 1 are 30", x.run(), 2);
        Check.move(x, 0, 1, 0, 29, 9999, 0, 1);
        Check.move(x, 1, 2, 0, 1, 9999, 0, 1);
        x.put(1, 0, 1);
        Check.due("30 are 30", x.run(), 1);
        Check.move(x, 0, 1, 0, 30, 9999, 0, 1);
        x.put(1, 0, 1);
        Check.due("31 are more", x.run(), 1);
        Check.move(x, 0, 1, 0, 30, 9999, 0, 0);
    }

    private static void trips() {
        Check.says(17, "A move joins the TRIP of the move before it if both come from one zone and the trip has fewer "
            + "than three moves, else it begins the next trip (0, 1, ..).");
        ReplenishRules x = new ReplenishRules();
        x.face(0, 0, 900, 900);
        for (int p = 1; p < 16; p++) {
            x.place(p, 1000, p < 8 ? 0 : p % 2 + 1);
            x.put(p, 0, 10);
        }
        Check.due("run()", x.run(), 15);
        int[] trips = {0, 0, 0, 1, 1, 1, 2, 3, 4, 5, 6, 7, 8, 9, 10};
        for (int i = 0; i < trips.length; i++) {
            Check.move(x, i, i + 1, 0, 10, 9999, trips[i], 1);
        }
    }

    /** The zone a move comes from counts, not the one it goes to, nor which face it is for. */
    private static void tripsOverFaces() {
        Check.says(17, "if both come from one zone");
        ReplenishRules x = new ReplenishRules();
        for (int face = 0; face < 4; face++) {
            x.place(face, 1000, face);
            x.face(face, face, 5, 5);
            x.place(8 + face, 1000, 2);
            x.put(8 + face, face, 50);
        }
        Check.due("run()", x.run(), 4);
        int[] trips = {0, 0, 0, 1};
        for (int i = 0; i < 4; i++) {
            Check.move(x, i, 8 + i, i, 5, 9999, trips[i], 0);
        }
        x.place(9, 1000, 3);
        x.run();
        int[] broken = {0, 1, 2, 2};
        for (int i = 0; i < 4; i++) {
            Check.move(x, i, 8 + i, i, 5, 9999, broken[i], 0);
        }
        x.put(0, 0, 5);
        x.run();
        Check.move(x, 0, 9, 1, 5, 9999, 0, 0);
    }

    /**
     * Each move but a good's last uses up a reserve or serves a face, so 16 places give 15 moves at most: what would
     * be beyond 30 cannot be seen.
     */
    private static void mostMoves() {
        Check.says(17, "At most 30 moves are planned; what is beyond is left out.");
        ReplenishRules x = new ReplenishRules();
        for (int i = 0; i < 8; i++) {
            x.face(i, 0, 20, 20);
            x.put(8 + i, 0, i == 0 ? 10 : 20);
        }
        Check.due("eight faces, eight reserves", x.run(), 15);
        for (int i = 0; i < 15; i++) {
            Check.move(x, i, 8 + (i + 1) / 2, i / 2, 10, 9999, i / 3, i % 2 == 0 ? 1 : 0);
        }
        Check.refused("move(15, 0)", Check.NO_ELEMENT, () -> x.move(15, 0));
        for (int i = 0; i < 15; i++) {
            int move = i;
            Check.taken("done(" + i + ")", () -> x.done(move));
        }
        Check.due("face 7 wants 10 still, and no reserve has any", x.run(), 0);
    }

    private static void plansAnew() {
        Check.says(17, "A RUN plans moves anew.");
        ReplenishRules x = new ReplenishRules();
        x.face(0, 0, 10, 10);
        x.put(1, 0, 4);
        x.put(2, 0, 20);
        Check.due("run()", x.run(), 2);
        Check.due("nothing has changed", x.run(), 2);
        Check.move(x, 0, 1, 0, 4, 9999, 0, 1, 0);
        Check.move(x, 1, 2, 0, 6, 9999, 0, 0, 0);
        x.done(1);
        Check.due("run() again", x.run(), 1);
        Check.move(x, 0, 1, 0, 4, 9999, 0, 1, 0);
        Check.refused("the plan before is gone", Check.NO_ELEMENT, () -> x.move(1, 0));
        x.done(0);
        Check.due("nothing is wanted", x.run(), 0);
        Check.refused("no move is left", Check.NO_ELEMENT, () -> x.done(0));
        x.use(0, 10);
        Check.due("a run after uses", x.run(), 1);
        Check.move(x, 0, 2, 0, 10, 9999, 0, 0, 0);
    }
}
