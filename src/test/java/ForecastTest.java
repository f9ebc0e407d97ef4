/** Promise 14: forecast. */
public final class ForecastTest {
    public static void main(String[] args) {
        numbers();
        itIsNone();
        fixed();
        usage();
        usageWithoutPastDays();
        pastDays();
        fading();
        fadingRests();
        fadingOf28Days();
        greatest();
        Check.refusalsInOrder(14);
        Warehouse.refused("no such place, so no face", Check.ARGUMENT, x -> x.forecast(16));
        Check.finish();
    }

    private static void numbers() {
        Check.says(14, "PLACES 0 .. 15");
        Warehouse.range("forecast(n)", 0, 15, (x, n) -> x.forecast(n));
    }

    private static void itIsNone() {
        Check.says(14, "A face's forecast. IllegalStateException: it is none.");
        Warehouse.refused("a reserve", Check.STATE, x -> x.forecast(9));
        Warehouse.refused("an empty reserve", Check.STATE, x -> x.forecast(5));
        Warehouse.taken("an empty face", x -> x.forecast(4));
    }

    private static ReplenishRules withUses(int... uses) {
        ReplenishRules x = new ReplenishRules();
        x.place(0, 100000, 0);
        x.face(0, 0, 0, 0);
        for (int day = 0; day < uses.length; day++) {
            x.day(day);
            use(x, uses[day]);
        }
        x.day(uses.length);
        return x;
    }

    private static void use(ReplenishRules x, int n) {
        if (n > 0) {
            x.put(0, 0, n);
            x.use(0, n);
        }
    }

    private static void fixed() {
        Check.says(14, "THE FORECAST of a face, by its zone's rule, today: FIXED: 0.");
        ReplenishRules x = withUses(10, 20);
        Check.due("FIXED at first", x.forecast(0), 0);
        x.rule(0, 0, 30, 399);
        x.factor(0, 1000, 1);
        Check.due("FIXED", x.forecast(0), 0);
        x.rule(0, 1, 30, 1);
        Check.due("USAGE up to yesterday", x.forecast(0), 0);
        x.rule(0, 1, 1, 2);
        Check.due("USAGE up to today", x.forecast(0), 15000);
    }

    private static void usage() {
        Check.says(14, "USAGE: the sum of what was used on past days, times days ahead, times UP, divided by the "
            + "number of past days and DOWN, rounded up");
        ReplenishRules x = withUses(10, 0, 21);
        x.rule(0, 1, 1, 399);
        Check.due("31 / 3, up", x.forecast(0), 11);
        x.rule(0, 1, 3, 399);
        Check.due("31 * 3 / 3", x.forecast(0), 31);
        x.factor(0, 2, 5);
        Check.due("31 * 3 * 2 / (3 * 5), up", x.forecast(0), 13);
        x.rule(0, 1, 7, 399);
        Check.due("31 * 7 * 2 / (3 * 5), up", x.forecast(0), 29);
        x.factor(0, 1, 1000);
        x.rule(0, 1, 1, 399);
        Check.due("31 / (3 * 1000), up", x.forecast(0), 1);
        ReplenishRules y = withUses(0, 0);
        y.rule(0, 1, 30, 399);
        Check.due("none was used", y.forecast(0), 0);
    }

    private static void usageWithoutPastDays() {
        Check.says(14, "rounded up (0 without past days).");
        ReplenishRules x = new ReplenishRules();
        x.face(0, 0, 0, 0);
        x.rule(0, 1, 30, 399);
        Check.due("on day 0", x.forecast(0), 0);
        use(x, 9);
        Check.due("on day 0, used today", x.forecast(0), 0);
        for (int day = 0; day < 28; day++) {
            x.open(day, false);
        }
        x.day(1);
        Check.due("one day, closed", x.forecast(0), 0);
        x.day(28);
        Check.due("28 days, closed", x.forecast(0), 0);
        use(x, 5);
        x.day(29);
        Check.due("28 days, one open", x.forecast(0), 150);
    }

    private static void pastDays() {
        Check.says(14, "PAST DAYS of a face: those of the 28 days before today that are open.");
        ReplenishRules x = withUses(280);
        x.rule(0, 1, 1, 399);
        Check.due("one day before day 1", x.forecast(0), 280);
        x.day(27);
        Check.due("27 days before day 27", x.forecast(0), 11);
        x.day(28);
        Check.due("day 0 is the 28th before day 28", x.forecast(0), 10);
        x.day(29);
        Check.due("day 0 is the 29th before day 29", x.forecast(0), 0);
        use(x, 56);
        Check.due("today is not before today", x.forecast(0), 0);
        x.open(30, false);
        x.day(30);
        Check.due("yesterday is; today is closed", x.forecast(0), 2);
        use(x, 1000);
        x.day(31);
        Check.due("27 open days; what was used on the closed one is not counted", x.forecast(0), 3);
        x.day(57);
        Check.due("day 29 is the 28th before day 57", x.forecast(0), 3);
        x.day(58);
        Check.due("day 29 is the 29th before day 58", x.forecast(0), 0);
    }

    private static void fading() {
        Check.says(14, "FADING: a number is 0 at first; for each past day, the earliest first, it is 7 times itself "
            + "and 1000 times what was used, divided by 8, rests dropped; then it times days ahead, times UP, divided "
            + "by 1000 and DOWN, rounded up.");
        ReplenishRules x = withUses(10, 20, 0, 1);
        x.rule(0, 2, 1, 399);
        // 1250, 3593, 3143, 2875 thousandths.
        Check.due("2875 / 1000, up", x.forecast(0), 3);
        x.rule(0, 2, 16, 399);
        Check.due("2875 * 16 / 1000", x.forecast(0), 46);
        x.factor(0, 7, 3);
        Check.due("2875 * 16 * 7 / 3000, up", x.forecast(0), 108);
        x.rule(0, 2, 1, 399);
        x.factor(0, 1, 1000);
        Check.due("2875 / 1000000, up", x.forecast(0), 1);
        use(x, 5000);
        Check.due("today is not before today", x.forecast(0), 1);
        ReplenishRules z = new ReplenishRules();
        z.face(0, 0, 0, 0);
        z.rule(0, 2, 30, 399);
        Check.due("no past days", z.forecast(0), 0);
        z.day(9);
        Check.due("none was used", z.forecast(0), 0);
        ReplenishRules y = withUses(20, 10);
        y.rule(0, 2, 30, 399);
        // 2500, 3437: the other way round it would be 3593.
        Check.due("the earliest first", y.forecast(0), 104);
        y.open(2, false);
        use(y, 500);
        y.day(3);
        Check.due("a closed day neither fades nor counts", y.forecast(0), 104);
    }

    /** One piece a day: 125, 234, 329, 412, 485 thousandths; with rests kept it would be 487 in the end. */
    private static void fadingRests() {
        Check.says(14, "divided by 8, rests dropped");
        ReplenishRules x = withUses(1, 1, 1, 1, 1);
        x.rule(0, 2, 1, 399);
        x.factor(0, 1000, 1);
        Check.due("the number itself", x.forecast(0), 485);
        x.day(28);
        int fading = 485;
        for (int day = 5; day < 28; day++) {
            fading = fading * 7 / 8;
        }
        Check.due("on day 28", x.forecast(0), fading);
    }

    private static void fadingOf28Days() {
        Check.says(14, "PAST DAYS of a face: those of the 28 days before today that are open.");
        ReplenishRules x = withUses(80000);
        x.rule(0, 2, 1, 399);
        x.factor(0, 1000, 1);
        x.day(28);
        long fading = 10000000;
        for (int i = 0; i < 27; i++) {
            fading = fading * 7 / 8;
        }
        Check.due("day 0 is the 28th before day 28", x.forecast(0), fading);
        x.day(29);
        Check.due("day 0 is the 29th before day 29", x.forecast(0), 0);
    }

    private static void greatest() {
        Check.says(14, "A face's forecast.");
        ReplenishRules x = new ReplenishRules();
        x.place(0, 100000, 0);
        x.face(0, 0, 0, 0);
        for (int i = 0; i < 240; i++) {
            use(x, 100000);
        }
        x.factor(0, 1000, 1);
        x.rule(0, 1, 30, 399);
        x.day(1);
        Check.due("USAGE far above an int", x.forecast(0), 720000000000L);
        x.rule(0, 2, 30, 399);
        Check.due("FADING far above an int", x.forecast(0), 90000000000L);
        Check.due("the threshold is the room", x.threshold(0), 100000);
        Check.due("above", x.above(0), true);
    }
}
