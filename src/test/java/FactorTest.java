/** Promise 9: factor. */
public final class FactorTest {
    public static void main(String[] args) {
        ranges();
        timesUpByDown();
        byMonthOfToday();
        Check.finish();
    }

    private static void ranges() {
        ReplenishRules x = new ReplenishRules();
        Check.taken("factor(0, 0, 1)", () -> x.factor(0, 0, 1));
        Check.taken("factor(11, 1000, 1000)", () -> x.factor(11, 1000, 1000));
        int[][] wrong = {{-1, 1, 1}, {12, 1, 1}, {0, -1, 1}, {0, 1001, 1}, {0, 1, 0}, {0, 1, -1}, {0, 1, 1001}};
        for (int[] w : wrong) {
            Check.refused("factor" + java.util.Arrays.toString(w), Check.ARGUMENT,
                () -> x.factor(w[0], w[1], w[2]));
        }
    }

    private static void timesUpByDown() {
        ReplenishRules x = new ReplenishRules();
        x.face(0, 0, 0, 100);
        x.put(0, 0, 100);
        x.use(0, 10);
        x.rule(0, 1, 1, 399);
        x.day(1);
        x.factor(0, 3, 4);
        Check.due("10 * 3 / 4, up", x.forecast(0), 8);
        x.factor(0, 1000, 1);
        Check.due("10 * 1000", x.forecast(0), 10000);
        x.factor(0, 1, 1000);
        Check.due("10 / 1000, up", x.forecast(0), 1);
        Check.refused("factor(0, 5, 0)", Check.ARGUMENT, () -> x.factor(0, 5, 0));
        Check.due("what is refused changes nothing", x.forecast(0), 1);
        x.factor(0, 0, 1000);
        Check.due("10 * 0", x.forecast(0), 0);
    }

    private static void byMonthOfToday() {
        int[] days = {1, 29, 30, 59, 60, 329, 330, 359, 360, 389, 390, 399};
        int[] months = {0, 0, 1, 1, 2, 10, 11, 11, 0, 0, 1, 1};
        for (int i = 0; i < days.length; i++) {
            Check.due("forecast on day " + days[i], usedTheDayBefore(days[i]).forecast(0), 100 + months[i]);
        }
    }

    /** One piece used yesterday, FADING, eight days ahead: the forecast is just the month's UP. */
    private static ReplenishRules usedTheDayBefore(int day) {
        ReplenishRules x = new ReplenishRules();
        x.face(0, 0, 0, 100);
        x.put(0, 0, 1);
        x.rule(0, 2, 8, 399);
        for (int month = 0; month < 12; month++) {
            x.factor(month, 100 + month, 1);
        }
        x.day(day - 1);
        x.use(0, 1);
        x.day(day);
        return x;
    }
}
