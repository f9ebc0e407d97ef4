/** Promise 14: forecast. */
public final class ForecastTest {
    public static void main(String[] args) {
        refusals();
        fixed();
        usage();
        usageOf28Days();
        fading();
        fadingOf28Days();
        greatNumbers();
        Check.finish();
    }

    private static void refusals() {
        ReplenishRules x = new ReplenishRules();
        Check.refused("forecast(-1)", Check.ARGUMENT, () -> x.forecast(-1));
        Check.refused("forecast(16)", Check.ARGUMENT, () -> x.forecast(16));
        Check.refused("no face", Check.STATE, () -> x.forecast(15));
        x.face(15, 0, 0, 0);
        Check.due("forecast(15)", x.forecast(15), 0);
    }

    private static ReplenishRules withUses(int... uses) {
        ReplenishRules x = new ReplenishRules();
        x.place(0, 100000, 0);
        x.face(0, 0, 0, 0);
        for (int i = 0; i < uses.length; i++) {
            x.day(i);
            if (uses[i] > 0) {
                x.put(0, 0, uses[i]);
                x.use(0, uses[i]);
            }
        }
        x.day(uses.length);
        return x;
    }

    private static void fixed() {
        ReplenishRules x = withUses(10, 20);
        Check.due("FIXED at first", x.forecast(0), 0);
        x.rule(0, 0, 30, 399);
        Check.due("FIXED", x.forecast(0), 0);
    }

    private static void usage() {
        ReplenishRules x = withUses(10, 0, 21);
        x.rule(0, 1, 1, 399);
        Check.due("31 / 3, up", x.forecast(0), 11);
        x.rule(0, 1, 3, 399);
        Check.due("31 * 3 / 3", x.forecast(0), 31);
        x.factor(0, 2, 5);
        Check.due("31 * 3 * 2 / (3 * 5), up", x.forecast(0), 13);
        x.rule(0, 1, 7, 399);
        Check.due("31 * 7 * 2 / (3 * 5), up", x.forecast(0), 29);
        ReplenishRules y = new ReplenishRules();
        y.face(0, 0, 0, 0);
        y.rule(0, 1, 30, 399);
        Check.due("no past days", y.forecast(0), 0);
        y.open(0, false);
        y.put(0, 0, 9);
        y.use(0, 9);
        y.day(1);
        Check.due("no open past days", y.forecast(0), 0);
    }

    private static void usageOf28Days() {
        ReplenishRules x = withUses(280);
        x.rule(0, 1, 1, 399);
        x.day(28);
        Check.due("day 0 is the 28th before day 28", x.forecast(0), 10);
        x.day(29);
        Check.due("day 0 is too far back", x.forecast(0), 0);
        x.put(0, 0, 5);
        x.use(0, 5);
        Check.due("today does not count", x.forecast(0), 0);
    }

    private static void fading() {
        ReplenishRules x = withUses(10, 20, 0, 1);
        x.rule(0, 2, 1, 399);
        // 1250, 3593, 3143, 2875 thousandths.
        Check.due("one day ahead", x.forecast(0), 3);
        x.rule(0, 2, 16, 399);
        Check.due("16 days ahead, even", x.forecast(0), 46);
        x.factor(0, 7, 3);
        Check.due("2875 * 16 * 7 / 3000, up", x.forecast(0), 108);
        ReplenishRules y = withUses(10, 20);
        y.open(2, false);
        y.rule(0, 2, 30, 399);
        y.put(0, 0, 500);
        y.use(0, 500);
        y.day(3);
        Check.due("a closed day neither fades nor counts", y.forecast(0), 108);
        ReplenishRules z = new ReplenishRules();
        z.face(0, 0, 0, 0);
        z.rule(0, 2, 30, 399);
        Check.due("no past days", z.forecast(0), 0);
    }

    private static void fadingOf28Days() {
        ReplenishRules x = withUses(80000);
        x.rule(0, 2, 1, 399);
        x.day(28);
        long fading = 10000000;
        for (int i = 0; i < 27; i++) {
            fading = fading * 7 / 8;
        }
        Check.due("day 0 is the 28th before day 28", x.forecast(0), (fading + 999) / 1000);
        x.day(29);
        Check.due("day 0 is too far back", x.forecast(0), 0);
    }

    private static void greatNumbers() {
        ReplenishRules x = new ReplenishRules();
        x.place(0, 100000, 0);
        x.face(0, 0, 0, 0);
        for (int i = 0; i < 240; i++) {
            x.put(0, 0, 100000);
            x.use(0, 100000);
        }
        x.factor(0, 1000, 1);
        x.rule(0, 1, 30, 399);
        x.day(1);
        Check.due("USAGE above an int", x.forecast(0), 720000000000L);
        x.rule(0, 2, 30, 399);
        Check.due("FADING above an int", x.forecast(0), 90000000000L);
        Check.due("threshold", x.threshold(0), 100000);
        Check.due("mean", x.mean(0, 1), 24000000);
    }
}
