/** Promise 9: factor. */
public final class FactorTest {
    public static void main(String[] args) {
        numbers();
        upAndDown();
        atFirst();
        monthOfToday();
        Check.refusalsInOrder(9);
        Warehouse.refused("no number is one", Check.ARGUMENT, x -> x.factor(12, 1001, 0));
        Check.finish();
    }

    private static void numbers() {
        Check.says(9, "A month's (0 .. 11) factor, up 0 .. 1000, down 1 .. 1000. IllegalArgumentException.");
        Warehouse.range("factor(n, 9, 7)", 0, 11, (x, n) -> x.factor(n, 9, 7));
        Warehouse.range("factor(1, n, 7)", 0, 1000, (x, n) -> x.factor(1, n, 7));
        Warehouse.range("factor(1, 9, n)", 1, 1000, (x, n) -> x.factor(1, 9, n));
    }

    private static void upAndDown() {
        Check.says(9, "up 0 .. 1000, down 1 .. 1000.");
        ReplenishRules x = new ReplenishRules();
        x.face(0, 0, 0, 100);
        x.put(0, 0, 100);
        x.use(0, 10);
        x.rule(0, 1, 1, 399);
        x.day(1);
        x.factor(0, 3, 4);
        Check.due("10 * 3 / 4, up", x.forecast(0), 8);
        x.factor(0, 1000, 1);
        Check.due("10 * 1000", x.forecast(0), 10000);
        x.factor(0, 1, 1000);
        Check.due("10 / 1000, up", x.forecast(0), 1);
        x.factor(0, 1000, 1000);
        Check.due("10 * 1000 / 1000", x.forecast(0), 10);
        x.factor(0, 0, 1);
        Check.due("10 * 0", x.forecast(0), 0);
        x.factor(0, 0, 1000);
        Check.due("10 * 0 / 1000", x.forecast(0), 0);
        x.rule(0, 2, 8, 399);
        Check.due("FADING * 0", x.forecast(0), 0);
    }

    private static void atFirst() {
        Check.says(9, "UP and DOWN are the month's factor (1 and 1 at first).");
        for (int month = 0; month < 12; month++) {
            ReplenishRules x = usedYesterday(30 * month + 15);
            Check.due("forecast in month " + month, x.forecast(0), 8);
        }
    }

    private static void monthOfToday() {
        Check.says(9, "its MONTH is the day divided by 30, of that the rest by 12.");
        int[] days = {1, 29, 30, 59, 60, 89, 90, 329, 330, 359, 360, 389, 390, 399};
        int[] months = {0, 0, 1, 1, 2, 2, 3, 10, 11, 11, 0, 0, 1, 1};
        for (int i = 0; i < days.length; i++) {
            ReplenishRules x = usedYesterday(days[i]);
            for (int month = 0; month < 12; month++) {
                x.factor(month, 100 + month, 8);
            }
            Check.due("forecast on day " + days[i], x.forecast(0), 100 + months[i]);
        }
    }

    /** Eight pieces used yesterday, FADING, eight days ahead: the forecast is eight times the month's factor. */
    private static ReplenishRules usedYesterday(int today) {
        ReplenishRules x = new ReplenishRules();
        x.face(0, 0, 0, 100);
        x.put(0, 0, 8);
        x.rule(0, 2, 8, 399);
        x.day(today - 1);
        x.use(0, 8);
        x.day(today);
        return x;
    }
}
