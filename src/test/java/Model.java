import java.math.BigInteger;
import java.util.ArrayList;
import java.util.Comparator;
import java.util.HashMap;
import java.util.HashSet;
import java.util.List;
import java.util.Map;
import java.util.Set;
import java.util.stream.IntStream;

/** A second writing of the document, by lists of what was told, that ModelTest holds the class against. */
final class Model {
    /** What a call throws, as a value. */
    static final class Refusal extends RuntimeException {
        private static final long serialVersionUID = 1L;

        Refusal(Class<?> kind) {
            super(kind.getSimpleName());
        }
    }

    private record Use(int place, int n, int day) {
    }

    private record Face(int good, int least, int most) {
    }

    private record Rule(int kind, int ahead, int until) {
    }

    private static final class Move {
        int from;
        int to;
        int n;
        int needTime;
        int trip;
        int zone;
        boolean last;
        boolean done;
    }

    private final Map<Integer, Integer> room = new HashMap<>();
    private final Map<Integer, Integer> zone = new HashMap<>();
    private final Map<Integer, List<Integer>> pieces = new HashMap<>();
    private final Map<Integer, Integer> held = new HashMap<>();
    private final Map<Integer, Face> faces = new HashMap<>();
    private final Map<Integer, Integer> cases = new HashMap<>();
    private final Map<Integer, Rule> rules = new HashMap<>();
    private final Map<Integer, int[]> factors = new HashMap<>();
    private final Set<Integer> closed = new HashSet<>();
    private final List<Use> uses = new ArrayList<>();
    private final List<Use> waves = new ArrayList<>();
    private List<Move> plan = new ArrayList<>();
    private int today = 0;

    long answer(String call, int[] a) {
        switch (call) {
            case "place": return place(a[0], a[1], a[2]);
            case "face": return face(a[0], a[1], a[2], a[3]);
            case "put": return put(a[0], a[1], a[2]);
            case "use": return use(a[0], a[1]);
            case "hold": return hold(a[0], a[1]);
            case "cases": return cases(a[0], a[1]);
            case "rule": return rule(a[0], a[1], a[2], a[3]);
            case "factor": return factor(a[0], a[1], a[2]);
            case "wave": return wave(a[0], a[1], a[2]);
            case "open": return open(a[0], a[1] == 1);
            case "day": return day(a[0]);
            case "mean": return mean(a[0], a[1]);
            case "forecast": return forecast(a[0]).longValueExact();
            case "threshold": return threshold(a[0]);
            case "above": return above(a[0]) ? 1 : 0;
            case "run": return run();
            case "move": return move(a[0], a[1]);
            case "done": return done(a[0]);
            case "told": return told(a[0], a[1]);
            default: throw new AssertionError(call);
        }
    }

    private static void wrongUnless(boolean holds) {
        if (!holds) {
            throw new Refusal(IllegalArgumentException.class);
        }
    }

    private static void stateUnless(boolean holds) {
        if (!holds) {
            throw new Refusal(IllegalStateException.class);
        }
    }

    private static void roomUnless(boolean holds) {
        if (!holds) {
            throw new Refusal(UnsupportedOperationException.class);
        }
    }

    private static boolean in(int n, int low, int high) {
        return low <= n && n <= high;
    }

    /** Pieces are kept one by one, each by its good. */
    private List<Integer> at(int place) {
        return pieces.computeIfAbsent(place, p -> new ArrayList<>());
    }

    private int heldAt(int place) {
        return held.getOrDefault(place, 0);
    }

    private int roomOf(int place) {
        return room.getOrDefault(place, 1000);
    }

    private int zoneOf(int place) {
        return zone.getOrDefault(place, 0);
    }

    private void isPlace(int place) {
        wrongUnless(in(place, 0, 15));
    }

    private Face faceOf(int place) {
        isPlace(place);
        stateUnless(faces.containsKey(place));
        return faces.get(place);
    }

    private boolean only(int place, int good) {
        return at(place).isEmpty() || at(place).get(0) == good;
    }

    private long place(int place, int r, int z) {
        wrongUnless(in(place, 0, 15) && in(r, 1, 100000) && in(z, 0, 3));
        stateUnless(at(place).size() <= r);
        stateUnless(!faces.containsKey(place) || faces.get(place).most() <= r);
        room.put(place, r);
        zone.put(place, z);
        return 0;
    }

    private long face(int place, int good, int least, int most) {
        wrongUnless(in(place, 0, 15) && in(good, 0, 7) && 0 <= least && least <= most && most <= roomOf(place));
        stateUnless(only(place, good));
        faces.put(place, new Face(good, least, most));
        return 0;
    }

    private long put(int place, int good, int n) {
        wrongUnless(in(place, 0, 15) && in(good, 0, 7) && in(n, 1, 100000));
        stateUnless(only(place, good) && (!faces.containsKey(place) || faces.get(place).good() == good));
        roomUnless(at(place).size() + n <= roomOf(place));
        add(place, good, n);
        return 0;
    }

    private void add(int place, int good, int n) {
        for (int i = 0; i < n; i++) {
            at(place).add(good);
        }
    }

    private void take(int place, int n) {
        List<Integer> all = at(place);
        all.subList(all.size() - n, all.size()).clear();
    }

    private long use(int place, int n) {
        wrongUnless(in(place, 0, 15) && in(n, 1, 100000));
        faceOf(place);
        stateUnless(at(place).size() - heldAt(place) >= n);
        take(place, n);
        uses.add(new Use(place, n, today));
        return 0;
    }

    private long hold(int place, int n) {
        wrongUnless(in(place, 0, 15) && n >= 0);
        stateUnless(at(place).size() >= n);
        held.put(place, n);
        return 0;
    }

    private long cases(int good, int n) {
        wrongUnless(in(good, 0, 7) && in(n, 1, 1000));
        cases.put(good, n);
        return 0;
    }

    private long rule(int z, int kind, int ahead, int until) {
        wrongUnless(in(z, 0, 3) && in(kind, 0, 2) && in(ahead, 1, 30) && in(until, 0, 399));
        rules.put(z, new Rule(kind, ahead, until));
        return 0;
    }

    private long factor(int month, int up, int down) {
        wrongUnless(in(month, 0, 11) && in(up, 0, 1000) && in(down, 1, 1000));
        factors.put(month, new int[] {up, down});
        return 0;
    }

    private long wave(int place, int n, int day) {
        wrongUnless(in(place, 0, 15) && in(n, 1, 100000) && in(day, today, 399));
        faceOf(place);
        roomUnless(waves.size() < 30);
        waves.add(new Use(place, n, day));
        return 0;
    }

    private long open(int day, boolean on) {
        wrongUnless(in(day, 0, 399));
        stateUnless(day >= today);
        if (on) {
            closed.remove(day);
        } else {
            closed.add(day);
        }
        return 0;
    }

    private long day(int day) {
        wrongUnless(in(day, 0, 399) && day >= today);
        today = day;
        return 0;
    }

    private IntStream before(int days) {
        return IntStream.range(today - days, today).filter(d -> d >= 0);
    }

    private int[] pastDays() {
        return before(28).filter(d -> !closed.contains(d)).toArray();
    }

    private long usedOn(int place, int day) {
        return uses.stream().filter(u -> u.place() == place && u.day() == day).mapToLong(Use::n).sum();
    }

    private long usedOnPastDays(int place) {
        return IntStream.of(pastDays()).mapToLong(d -> usedOn(place, d)).sum();
    }

    private long mean(int place, int days) {
        wrongUnless(in(place, 0, 15) && in(days, 0, 60));
        faceOf(place);
        long open = before(days).filter(d -> !closed.contains(d)).count();
        if (open == 0) {
            throw new Refusal(ArithmeticException.class);
        }
        return before(days).mapToLong(d -> usedOn(place, d)).sum() / open;
    }

    private Rule ruleNow(int place) {
        Rule rule = rules.get(zoneOf(place));
        return rule == null || rule.until() < today ? new Rule(0, 1, 399) : rule;
    }

    private static BigInteger up(BigInteger n, long by) {
        BigInteger[] parts = n.divideAndRemainder(BigInteger.valueOf(by));
        return parts[1].signum() == 0 ? parts[0] : parts[0].add(BigInteger.ONE);
    }

    private BigInteger forecast(int place) {
        faceOf(place);
        Rule rule = ruleNow(place);
        int[] factor = factors.getOrDefault((today / 30) % 12, new int[] {1, 1});
        BigInteger times = BigInteger.valueOf(rule.ahead()).multiply(BigInteger.valueOf(factor[0]));
        int[] past = pastDays();
        if (rule.kind() == 0 || past.length == 0) {
            return BigInteger.ZERO;
        }
        if (rule.kind() == 1) {
            return up(BigInteger.valueOf(usedOnPastDays(place)).multiply(times), (long) past.length * factor[1]);
        }
        BigInteger fading = BigInteger.ZERO;
        for (int day : past) {
            BigInteger used = BigInteger.valueOf(1000).multiply(BigInteger.valueOf(usedOn(place, day)));
            fading = fading.multiply(BigInteger.valueOf(7)).add(used).divide(BigInteger.valueOf(8));
        }
        return up(fading.multiply(times), 1000L * factor[1]);
    }

    private BigInteger need(int place) {
        Face face = faceOf(place);
        int last = today + ruleNow(place).ahead();
        long ofWaves = waves.stream().filter(w -> w.place() == place && in(w.day(), today, last))
            .mapToLong(Use::n).sum();
        return forecast(place).max(BigInteger.valueOf(face.least())).max(BigInteger.valueOf(ofWaves));
    }

    private int threshold(int place) {
        BigInteger need = need(place);
        return need.min(BigInteger.valueOf(roomOf(place))).intValueExact();
    }

    private boolean above(int place) {
        return need(place).compareTo(BigInteger.valueOf(roomOf(place))) > 0;
    }

    private int wants(int place) {
        int has = at(place).size();
        int threshold = threshold(place);
        if (has >= threshold) {
            return 0;
        }
        int upTo = Math.min(roomOf(place), Math.max(faces.get(place).most(), threshold));
        int ofCase = cases.getOrDefault(faces.get(place).good(), 1);
        int number = 0;
        while (has + number * ofCase < upTo) {
            number++;
        }
        if (has + number * ofCase > roomOf(place)) {
            number--;
        }
        return number * ofCase;
    }

    private int needTime(int place) {
        long used = usedOnPastDays(place);
        return used == 0 ? 9999 : Math.toIntExact((long) at(place).size() * pastDays().length / used);
    }

    private long run() {
        stateUnless(!closed.contains(today));
        plan = new ArrayList<>();
        List<Integer> order = new ArrayList<>(faces.keySet());
        order.sort(Comparator.<Integer>comparingInt(this::needTime).thenComparing(f -> f));
        for (int face : order) {
            plan(face);
        }
        while (plan.size() > 30) {
            plan.remove(plan.size() - 1);
        }
        joinTrips();
        return plan.size();
    }

    private int free(int place) {
        return at(place).size() - heldAt(place)
            - plan.stream().filter(m -> m.from == place).mapToInt(m -> m.n).sum();
    }

    private void plan(int face) {
        int wanted = wants(face);
        int good = faces.get(face).good();
        List<Integer> reserves = new ArrayList<>();
        for (int p = 0; p < 16; p++) {
            if (!faces.containsKey(p) && !at(p).isEmpty() && at(p).get(0) == good && free(p) > 0) {
                reserves.add(p);
            }
        }
        reserves.sort(Comparator.comparing(p -> zoneOf(p) != zoneOf(face)));
        for (int p : reserves) {
            Move move = new Move();
            move.from = p;
            move.to = face;
            move.n = Math.min(wanted, free(p));
            move.needTime = needTime(face);
            move.zone = zoneOf(p);
            if (move.n > 0) {
                plan.add(move);
                wanted -= move.n;
                move.last = free(p) == 0;
            }
        }
    }

    private void joinTrips() {
        for (int i = 1; i < plan.size(); i++) {
            Move before = plan.get(i - 1);
            Move move = plan.get(i);
            long inTrip = plan.subList(0, i).stream().filter(m -> m.trip == before.trip).count();
            move.trip = before.zone == move.zone && inTrip < 3 ? before.trip : before.trip + 1;
        }
    }

    private Move moveOf(int i) {
        if (!in(i, 0, plan.size() - 1)) {
            throw new Refusal(java.util.NoSuchElementException.class);
        }
        return plan.get(i);
    }

    private long move(int i, int what) {
        Move m = moveOf(i);
        wrongUnless(in(what, 0, 6));
        return new int[] {m.from, m.to, m.n, m.needTime, m.trip, m.last ? 1 : 0, m.done ? 1 : 0}[what];
    }

    private long done(int i) {
        Move m = moveOf(i);
        int good = faces.get(m.to).good();
        stateUnless(!m.done);
        stateUnless(!at(m.from).isEmpty() && at(m.from).get(0) == good);
        stateUnless(at(m.from).size() - heldAt(m.from) >= m.n);
        stateUnless(only(m.to, good));
        roomUnless(at(m.to).size() + m.n <= roomOf(m.to));
        take(m.from, m.n);
        add(m.to, good, m.n);
        m.done = true;
        return 0;
    }

    private long told(int place, int what) {
        wrongUnless(in(place, 0, 15) && in(what, 0, 5));
        Face face = faces.get(place);
        switch (what) {
            case 0: return at(place).size();
            case 1: return heldAt(place);
            case 2: return at(place).isEmpty() ? -1 : at(place).get(0);
            case 3: return face == null ? 0 : 1;
            case 4: return face == null ? 0 : face.least();
            default: return face == null ? 0 : face.most();
        }
    }
}
