/** Promise 8: rule. */
public final class RuleTest {
    public static void main(String[] args) {
        numbers();
        atFirst();
        byZone();
        ahead();
        thatDayToo();
        behindIt();
        Check.refusalsInOrder(8);
        Warehouse.refused("no number is one", Check.ARGUMENT, x -> x.rule(4, 3, 31, 400));
        Check.finish();
    }

    private static void numbers() {
        Check.says(8, "A zone's rule. IllegalArgumentException.");
        Warehouse.range("rule(n, 2, 9, 200)", 0, 3, (x, n) -> x.rule(n, 2, 9, 200));
        Check.says(8, "0 FIXED, 1 USAGE, 2 FADING");
        Warehouse.range("rule(0, n, 9, 200)", 0, 2, (x, n) -> x.rule(0, n, 9, 200));
        Check.says(8, "for so many days AHEAD (1 .. 30)");
        Warehouse.range("rule(0, 2, n, 200)", 1, 30, (x, n) -> x.rule(0, 2, n, 200));
        Check.says(8, "DAYS are 0 .. 399");
        Warehouse.range("rule(0, 2, 9, n)", 0, 399, (x, n) -> x.rule(0, 2, 9, n));
    }

    /** Eight pieces are used on day 0. */
    private static ReplenishRules withUse() {
        ReplenishRules x = new ReplenishRules();
        x.face(0, 0, 0, 100);
        x.put(0, 0, 100);
        x.use(0, 8);
        return x;
    }

    private static void atFirst() {
        Check.says(8, "FIXED with 1 day ahead at first.");
        for (int zone = 0; zone < 4; zone++) {
            ReplenishRules x = withUse();
            x.place(0, 1000, zone);
            x.wave(0, 3, 399);
            x.day(1);
            Check.due("forecast in zone " + zone, x.forecast(0), 0);
            x.day(397);
            Check.due("two days before the wave", x.threshold(0), 0);
            x.day(398);
            Check.due("one day before the wave", x.threshold(0), 3);
        }
    }

    private static void byZone() {
        Check.says(8, "RULES are by zone: 0 FIXED, 1 USAGE, 2 FADING");
        ReplenishRules x = withUse();
        x.rule(1, 0, 3, 399);
        x.rule(2, 1, 3, 399);
        x.rule(3, 2, 3, 399);
        x.day(1);
        int[] forecasts = {0, 0, 24, 3};
        for (int zone = 0; zone < 4; zone++) {
            x.place(0, 1000, zone);
            Check.due("forecast in zone " + zone, x.forecast(0), forecasts[zone]);
        }
        x.rule(3, 1, 5, 399);
        Check.due("told anew", x.forecast(0), 40);
        x.rule(3, 0, 5, 399);
        Check.due("FIXED anew", x.forecast(0), 0);
    }

    private static void ahead() {
        Check.says(8, "for so many days AHEAD (1 .. 30)");
        ReplenishRules x = withUse();
        x.wave(0, 1, 0);
        x.wave(0, 10, 1);
        x.wave(0, 100, 2);
        x.wave(0, 200, 30);
        x.wave(0, 500, 31);
        x.rule(0, 0, 1, 399);
        Check.due("1 day ahead", x.threshold(0), 11);
        x.rule(0, 0, 2, 399);
        Check.due("2 days ahead", x.threshold(0), 111);
        x.rule(0, 0, 29, 399);
        Check.due("29 days ahead", x.threshold(0), 111);
        x.rule(0, 0, 30, 399);
        Check.due("30 days ahead", x.threshold(0), 311);
        x.day(1);
        x.rule(0, 1, 30, 399);
        Check.due("USAGE, 30 days ahead", x.forecast(0), 240);
    }

    private static void thatDayToo() {
        Check.says(8, "up to a day, that day too");
        ReplenishRules x = withUse();
        x.rule(0, 1, 3, 1);
        x.wave(0, 900, 4);
        x.day(1);
        Check.due("the forecast on its last day", x.forecast(0), 24);
        Check.due("the days ahead on its last day", x.threshold(0), 900);
        ReplenishRules y = withUse();
        y.rule(0, 0, 3, 0);
        y.wave(0, 900, 3);
        Check.due("up to day 0, on day 0", y.threshold(0), 900);
        ReplenishRules z = withUse();
        z.rule(0, 2, 8, 399);
        z.day(398);
        z.use(0, 5);
        z.day(399);
        Check.due("up to day 399, on day 399", z.forecast(0), 5);
    }

    private static void behindIt() {
        Check.says(8, "(behind it: FIXED, with 1 day ahead)");
        ReplenishRules x = withUse();
        x.rule(0, 1, 3, 1);
        x.day(2);
        x.wave(0, 7, 3);
        x.wave(0, 900, 4);
        Check.due("the forecast behind its last day", x.forecast(0), 0);
        Check.due("the days ahead behind its last day", x.threshold(0), 7);
        x.rule(0, 2, 30, 1);
        Check.due("a rule told behind its last day", x.forecast(0), 0);
        Check.due("its days ahead", x.threshold(0), 7);
        x.rule(0, 1, 3, 2);
        Check.due("a rule told anew", x.forecast(0), 12);
        Check.due("its days ahead", x.threshold(0), 907);
    }
}
