/** Promise 13: mean. */
public final class MeanTest {
    public static void main(String[] args) {
        ranges();
        noneWasOpen();
        lastDays();
        closedDays();
        Check.finish();
    }

    private static void ranges() {
        ReplenishRules x = new ReplenishRules();
        x.face(15, 0, 0, 0);
        x.day(1);
        Check.due("mean(15, 60)", x.mean(15, 60), 0);
        Check.refused("mean(15, 61)", Check.ARGUMENT, () -> x.mean(15, 61));
        Check.refused("mean(15, -1)", Check.ARGUMENT, () -> x.mean(15, -1));
        Check.refused("mean(16, 1)", Check.ARGUMENT, () -> x.mean(16, 1));
        Check.refused("mean(-1, 1)", Check.ARGUMENT, () -> x.mean(-1, 1));
        Check.refused("no face", Check.STATE, () -> x.mean(0, 1));
        Check.refused("wrong days come before no face", Check.ARGUMENT, () -> x.mean(0, 61));
        Check.refused("no face comes before no open day", Check.STATE, () -> x.mean(0, 0));
    }

    private static void noneWasOpen() {
        ReplenishRules x = new ReplenishRules();
        x.face(0, 0, 0, 0);
        Check.refused("no day is before day 0", Check.ARITHMETIC, () -> x.mean(0, 60));
        x.open(0, false);
        x.day(1);
        Check.refused("a closed day", Check.ARITHMETIC, () -> x.mean(0, 1));
        Check.refused("no days", Check.ARITHMETIC, () -> x.mean(0, 0));
        x.day(2);
        Check.due("one was", x.mean(0, 2), 0);
    }

    private static void lastDays() {
        ReplenishRules x = new ReplenishRules();
        x.face(0, 0, 0, 0);
        x.put(0, 0, 1000);
        x.use(0, 600);
        x.day(1);
        x.use(0, 59);
        x.day(60);
        Check.due("day 0 is the 60th before day 60", x.mean(0, 60), 10);
        Check.due("not the 59th", x.mean(0, 59), 1);
        Check.due("rests dropped", x.mean(0, 58), 0);
        x.use(0, 100);
        Check.due("today does not count", x.mean(0, 59), 1);
        x.day(61);
        Check.due("day 0 is too far back", x.mean(0, 60), 2);
    }

    private static void closedDays() {
        ReplenishRules x = new ReplenishRules();
        x.face(0, 0, 0, 0);
        x.put(0, 0, 1000);
        x.open(1, false);
        x.use(0, 10);
        x.day(1);
        x.use(0, 11);
        x.day(3);
        Check.due("used on a closed day, too", x.mean(0, 3), 10);
        Check.due("two days, one open", x.mean(0, 2), 11);
    }
}
