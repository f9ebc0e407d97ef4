import java.util.NoSuchElementException;

/** Replenishes the pick faces of a warehouse from its reserves; ../shared/DOC.md says every promise. */
public final class ReplenishRules {
    private static final int PLACES = 16;
    private static final int ZONES = 4;
    private static final int GOODS = 8;
    private static final int DAYS = 400;
    private static final int MONTHS = 12;
    private static final int DAYS_OF_MONTH = 30;
    private static final int PAST_DAYS = 28;
    private static final int MEAN_DAYS = 60;

    private static final int NONE = -1;
    private static final int FIRST_ROOM = 1000;
    private static final int MOST_PIECES = 100000;
    private static final int MOST_CASE = 1000;
    private static final int MOST_FACTOR = 1000;
    private static final int MOST_AHEAD = 30;
    private static final int MOST_WAVES = 30;
    private static final int MOST_MOVES = 30;
    private static final int MOVES_OF_TRIP = 3;
    private static final int NEVER_EMPTY = 9999;

    private static final int FIXED = 0;
    private static final int USAGE = 1;
    private static final int FADING = 2;
    private static final int LAST_TOLD = 5;
    private static final int LAST_OF_MOVE = 6;

    private final Place[] places = new Place[PLACES];
    private final Rule[] rules = new Rule[ZONES];
    private final int[] casePieces = new int[GOODS];
    private final int[] ups = new int[MONTHS];
    private final int[] downs = new int[MONTHS];
    private final Calendar calendar = new Calendar();
    private final Waves waves = new Waves();
    private final Plan plan = new Plan();

    public ReplenishRules() {
        for (int i = 0; i < PLACES; i++) {
            places[i] = new Place(i);
        }
        for (int i = 0; i < ZONES; i++) {
            rules[i] = new Rule();
        }
        for (int i = 0; i < GOODS; i++) {
            casePieces[i] = 1;
        }
        for (int i = 0; i < MONTHS; i++) {
            ups[i] = 1;
            downs[i] = 1;
        }
    }

    public void place(int place, int room, int zone) throws IllegalArgumentException, IllegalStateException {
        Place told = placeAt(place);
        checkRange(room, 1, MOST_PIECES);
        checkRange(zone, 0, ZONES - 1);
        if (told.pieces > room || told.most > room) {
            throw new IllegalStateException("the place has more, or its face's most is more");
        }
        told.room = room;
        told.zone = zone;
    }

    public void face(int place, int good, int least, int most)
            throws IllegalArgumentException, IllegalStateException {
        Place told = placeAt(place);
        checkRange(good, 0, GOODS - 1);
        checkRange(most, 0, told.room);
        checkRange(least, 0, most);
        if (told.holdsAnother(good)) {
            throw new IllegalStateException("the place holds another good");
        }
        told.faceGood = good;
        told.least = least;
        told.most = most;
    }

    public void put(int place, int good, int n)
            throws IllegalArgumentException, IllegalStateException, UnsupportedOperationException {
        Place told = placeAt(place);
        checkRange(good, 0, GOODS - 1);
        checkRange(n, 1, MOST_PIECES);
        if (told.holdsAnother(good) || told.isFaceOfAnother(good)) {
            throw new IllegalStateException("the place is for another good");
        }
        checkSpace(told, n);
        told.bring(good, n);
    }

    public void use(int place, int n) throws IllegalArgumentException, IllegalStateException {
        checkRange(n, 1, MOST_PIECES);
        Place face = faceAt(place);
        if (face.notHeld() < n) {
            throw new IllegalStateException("the face has not so many that are not held");
        }
        face.takeAway(n);
        face.used[calendar.today] += n;
    }

    public void hold(int place, int n) throws IllegalArgumentException, IllegalStateException {
        Place told = placeAt(place);
        if (n < 0) {
            throw new IllegalArgumentException("the number is below 0");
        }
        if (told.pieces < n) {
            throw new IllegalStateException("the place has not so many");
        }
        told.held = n;
    }

    public void cases(int good, int pieces) throws IllegalArgumentException {
        checkRange(good, 0, GOODS - 1);
        checkRange(pieces, 1, MOST_CASE);
        casePieces[good] = pieces;
    }

    public void rule(int zone, int kind, int ahead, int until) throws IllegalArgumentException {
        checkRange(zone, 0, ZONES - 1);
        checkRange(kind, FIXED, FADING);
        checkRange(ahead, 1, MOST_AHEAD);
        checkRange(until, 0, DAYS - 1);
        Rule told = rules[zone];
        told.kind = kind;
        told.ahead = ahead;
        told.until = until;
    }

    public void factor(int month, int up, int down) throws IllegalArgumentException {
        checkRange(month, 0, MONTHS - 1);
        checkRange(up, 0, MOST_FACTOR);
        checkRange(down, 1, MOST_FACTOR);
        ups[month] = up;
        downs[month] = down;
    }

    public void wave(int place, int n, int day)
            throws IllegalArgumentException, IllegalStateException, UnsupportedOperationException {
        checkRange(n, 1, MOST_PIECES);
        checkRange(day, calendar.today, DAYS - 1);
        Place face = faceAt(place);
        if (waves.count >= MOST_WAVES) {
            throw new UnsupportedOperationException("thirty waves are told");
        }
        waves.add(face.number, n, day);
    }

    public void open(int day, boolean on) throws IllegalArgumentException, IllegalStateException {
        checkRange(day, 0, DAYS - 1);
        if (day < calendar.today) {
            throw new IllegalStateException("the day is before today");
        }
        calendar.closed[day] = !on;
    }

    public void day(int day) throws IllegalArgumentException {
        checkRange(day, calendar.today, DAYS - 1);
        calendar.today = day;
    }

    public int mean(int place, int days)
            throws IllegalArgumentException, IllegalStateException, ArithmeticException {
        checkRange(days, 0, MEAN_DAYS);
        Place face = faceAt(place);
        int open = calendar.openDays(days);
        if (open == 0) {
            throw new ArithmeticException("none of the days was open");
        }
        return (int) (usedOnAllDays(face, days) / open);
    }

    public long forecast(int place) throws IllegalArgumentException, IllegalStateException {
        return forecastOf(faceAt(place));
    }

    public int threshold(int place) throws IllegalArgumentException, IllegalStateException {
        return thresholdOf(faceAt(place));
    }

    public boolean above(int place) throws IllegalArgumentException, IllegalStateException {
        Place face = faceAt(place);
        return needOf(face) > face.room;
    }

    public int run() throws IllegalStateException {
        if (!calendar.isOpen(calendar.today)) {
            throw new IllegalStateException("today is closed");
        }
        plan.clear();
        for (int i = 0; i < PLACES; i++) {
            prepare(places[i]);
        }
        for (int turn = 0; turn < PLACES; turn++) {
            Place face = mostUrgentFace();
            if (face == null) {
                break;
            }
            serve(face);
        }
        return plan.count;
    }

    public int move(int i, int what) throws NoSuchElementException, IllegalArgumentException {
        Move planned = plan.moveAt(i);
        checkRange(what, 0, LAST_OF_MOVE);
        return planned.tell(what);
    }

    public void done(int i) throws NoSuchElementException, IllegalStateException, UnsupportedOperationException {
        Move planned = plan.moveAt(i);
        Place reserve = places[planned.from];
        Place face = places[planned.to];
        int good = face.faceGood;
        if (planned.isDone) {
            throw new IllegalStateException("the move was done");
        }
        if (reserve.good != good || reserve.notHeld() < planned.pieces) {
            throw new IllegalStateException("the reserve has not so many free pieces of the good");
        }
        if (face.holdsAnother(good)) {
            throw new IllegalStateException("the face holds another good");
        }
        checkSpace(face, planned.pieces);
        reserve.takeAway(planned.pieces);
        face.bring(good, planned.pieces);
        planned.isDone = true;
    }

    public int told(int place, int what) throws IllegalArgumentException {
        Place asked = placeAt(place);
        checkRange(what, 0, LAST_TOLD);
        return asked.tell(what);
    }

    private static void checkRange(int number, int lowest, int highest) {
        if (number < lowest || number > highest) {
            throw new IllegalArgumentException("a number is outside its range");
        }
    }

    private static void checkSpace(Place place, int n) {
        if (place.space() < n) {
            throw new UnsupportedOperationException("the place has no room for so many");
        }
    }

    private Place placeAt(int place) {
        checkRange(place, 0, PLACES - 1);
        return places[place];
    }

    /** Callers check their other numbers first: a wrong number is refused before a place that is no face. */
    private Place faceAt(int place) {
        Place face = placeAt(place);
        if (!face.isFace()) {
            throw new IllegalStateException("the place is no face");
        }
        return face;
    }

    /** The mean counts what was used on closed days, too; the forecast and the need time do not. */
    private long usedOnAllDays(Place face, int days) {
        long sum = 0;
        for (int d = calendar.firstOf(days); d < calendar.today; d++) {
            sum += face.used[d];
        }
        return sum;
    }

    private long usedOnPastDays(Place face) {
        long sum = 0;
        for (int d = calendar.firstOf(PAST_DAYS); d < calendar.today; d++) {
            if (calendar.isOpen(d)) {
                sum += face.used[d];
            }
        }
        return sum;
    }

    /** In thousandths of a piece, so that the rests dropped each day stay small. */
    private long fadingUse(Place face) {
        long fading = 0;
        for (int d = calendar.firstOf(PAST_DAYS); d < calendar.today; d++) {
            if (calendar.isOpen(d)) {
                fading = (7 * fading + 1000L * face.used[d]) / 8;
            }
        }
        return fading;
    }

    private long forecastOf(Place face) {
        Rule rule = rules[face.zone];
        int kind = rule.kindOn(calendar.today);
        int month = calendar.month();
        long times = (long) rule.aheadOn(calendar.today) * ups[month];
        if (kind == USAGE) {
            long pastDays = calendar.openDays(PAST_DAYS);
            return divideUp(usedOnPastDays(face) * times, pastDays * downs[month]);
        }
        if (kind == FADING) {
            return divideUp(fadingUse(face) * times, 1000L * downs[month]);
        }
        return 0;
    }

    /** Answers 0 without a divisor: so is a forecast without past days. */
    private static long divideUp(long number, long divisor) {
        if (divisor <= 0) {
            return 0;
        }
        return (number + divisor - 1) / divisor;
    }

    private long needOf(Place face) {
        int today = calendar.today;
        int lastDay = today + rules[face.zone].aheadOn(today);
        long ofWaves = waves.neededOf(face.number, today, lastDay);
        return Math.max(Math.max(face.least, forecastOf(face)), ofWaves);
    }

    private int thresholdOf(Place face) {
        return (int) Math.min(needOf(face), face.room);
    }

    private int needTimeOf(Place face) {
        long used = usedOnPastDays(face);
        if (used == 0) {
            return NEVER_EMPTY;
        }
        return (int) ((long) face.pieces * calendar.openDays(PAST_DAYS) / used);
    }

    private void prepare(Place place) {
        place.planned = 0;
        place.wanted = 0;
        if (place.isFace()) {
            place.wanted = wantedBy(place, thresholdOf(place));
            place.needTime = needTimeOf(place);
        }
    }

    private int wantedBy(Place face, int threshold) {
        if (face.pieces >= threshold) {
            return 0;
        }
        // Neither the most nor the threshold is ever above the room, so what is missing always fits.
        int missing = Math.max(face.most, threshold) - face.pieces;
        return inFullCases(missing, casePieces[face.faceGood], face.space());
    }

    private static int inFullCases(int missing, int ofCase, int space) {
        if (ofCase <= 1) {
            return missing;
        }
        int rest = missing % ofCase;
        if (rest == 0) {
            return missing;
        }
        int less = missing - rest;
        int more = less + ofCase;
        return more <= space ? more : less;
    }

    /** Of equal need times the first by number; null when no face wants anything any more. */
    private Place mostUrgentFace() {
        Place first = null;
        for (int i = 0; i < PLACES; i++) {
            Place place = places[i];
            if (place.wanted > 0 && (first == null || place.needTime < first.needTime)) {
                first = place;
            }
        }
        return first;
    }

    private void serve(Place face) {
        takeFromReserves(face, true);
        takeFromReserves(face, false);
        // What no reserve could give is left, so that the face does not get a second turn.
        face.wanted = 0;
    }

    private void takeFromReserves(Place face, boolean ofItsZone) {
        for (int i = 0; i < PLACES; i++) {
            Place place = places[i];
            boolean inItsZone = place.zone == face.zone;
            if (inItsZone == ofItsZone && place.isReserveOf(face.faceGood)) {
                planMove(place, face);
            }
        }
    }

    private void planMove(Place reserve, Place face) {
        int n = Math.min(reserve.free(), face.wanted);
        if (n <= 0 || plan.count >= MOST_MOVES) {
            return;
        }
        reserve.planned += n;
        face.wanted -= n;
        plan.add(reserve, face, n);
    }

    private static final class Place {
        final int number;
        final int[] used = new int[DAYS];
        int room = FIRST_ROOM;
        int zone = 0;
        int pieces = 0;
        int held = 0;
        int good = NONE;
        int faceGood = NONE;
        int least = 0;
        int most = 0;
        int planned = 0;
        int wanted = 0;
        int needTime = 0;

        Place(int number) {
            this.number = number;
        }

        boolean isFace() {
            return faceGood != NONE;
        }

        boolean isFaceOfAnother(int other) {
            return isFace() && faceGood != other;
        }

        boolean isReserveOf(int wantedGood) {
            return !isFace() && good == wantedGood;
        }

        boolean holdsAnother(int other) {
            return good != NONE && good != other;
        }

        int space() {
            return room - pieces;
        }

        int notHeld() {
            return pieces - held;
        }

        int free() {
            return notHeld() - planned;
        }

        void bring(int broughtGood, int n) {
            good = broughtGood;
            pieces += n;
        }

        void takeAway(int n) {
            pieces -= n;
            if (pieces == 0) {
                good = NONE;
            }
        }

        int tell(int what) {
            switch (what) {
                case 0:
                    return pieces;
                case 1:
                    return held;
                case 2:
                    return good;
                case 3:
                    return isFace() ? 1 : 0;
                case 4:
                    return least;
                default:
                    return most;
            }
        }
    }

    private static final class Rule {
        int kind = FIXED;
        int ahead = 1;
        int until = DAYS - 1;

        int kindOn(int day) {
            return day > until ? FIXED : kind;
        }

        int aheadOn(int day) {
            return day > until ? 1 : ahead;
        }
    }

    private static final class Calendar {
        final boolean[] closed = new boolean[DAYS];
        int today = 0;

        boolean isOpen(int day) {
            return !closed[day];
        }

        int month() {
            return today / DAYS_OF_MONTH % MONTHS;
        }

        /** The first of the last so many days before today; there are none before day 0. */
        int firstOf(int days) {
            return today > days ? today - days : 0;
        }

        int openDays(int days) {
            int open = 0;
            for (int d = firstOf(days); d < today; d++) {
                if (isOpen(d)) {
                    open++;
                }
            }
            return open;
        }
    }

    private static final class Waves {
        final int[] faces = new int[MOST_WAVES];
        final int[] pieces = new int[MOST_WAVES];
        final int[] days = new int[MOST_WAVES];
        int count = 0;

        void add(int face, int n, int day) {
            if (count >= MOST_WAVES) {
                return;
            }
            faces[count] = face;
            pieces[count] = n;
            days[count] = day;
            count++;
        }

        long neededOf(int face, int firstDay, int lastDay) {
            long sum = 0;
            for (int i = 0; i < count; i++) {
                if (faces[i] == face && days[i] >= firstDay && days[i] <= lastDay) {
                    sum += pieces[i];
                }
            }
            return sum;
        }
    }

    private static final class Move {
        int from = 0;
        int to = 0;
        int pieces = 0;
        int needTime = 0;
        int trip = 0;
        boolean emptiesReserve = false;
        boolean isDone = false;

        int tell(int what) {
            switch (what) {
                case 0:
                    return from;
                case 1:
                    return to;
                case 2:
                    return pieces;
                case 3:
                    return needTime;
                case 4:
                    return trip;
                case 5:
                    return emptiesReserve ? 1 : 0;
                default:
                    return isDone ? 1 : 0;
            }
        }
    }

    /** The moves of the last run; its rows are made once and written anew by each run. */
    private static final class Plan {
        final Move[] moves = new Move[MOST_MOVES];
        int count = 0;
        int trip = NONE;
        int tripZone = NONE;
        int tripMoves = 0;

        Plan() {
            for (int i = 0; i < MOST_MOVES; i++) {
                moves[i] = new Move();
            }
        }

        void clear() {
            count = 0;
            trip = NONE;
            tripZone = NONE;
            tripMoves = 0;
        }

        Move moveAt(int i) {
            if (i < 0 || i >= count) {
                throw new NoSuchElementException("there is no such move");
            }
            return moves[i];
        }

        /** The reserve's free pieces are those that are left behind this move. */
        void add(Place reserve, Place face, int n) {
            if (count >= MOST_MOVES) {
                return;
            }
            joinTrip(reserve.zone);
            Move next = moves[count];
            next.from = reserve.number;
            next.to = face.number;
            next.pieces = n;
            next.needTime = face.needTime;
            next.trip = trip;
            next.emptiesReserve = reserve.free() == 0;
            next.isDone = false;
            count++;
        }

        private void joinTrip(int zone) {
            // No zone is NONE, so that the first move always begins trip 0.
            if (tripZone != zone || tripMoves >= MOVES_OF_TRIP) {
                trip++;
                tripZone = zone;
                tripMoves = 0;
            }
            tripMoves++;
        }
    }
}
