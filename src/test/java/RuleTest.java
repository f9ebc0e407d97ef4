/** Promise 8: rule. */
public final class RuleTest {
    public static void main(String[] args) {
        ranges();
        untilThatDayToo();
        byZone();
        aheadOfWaves();
        Check.finish();
    }

    private static void ranges() {
        ReplenishRules x = new ReplenishRules();
        Check.taken("rule(0, 0, 1, 0)", () -> x.rule(0, 0, 1, 0));
        Check.taken("rule(3, 2, 30, 399)", () -> x.rule(3, 2, 30, 399));
        int[][] wrong = {{-1, 0, 1, 0}, {4, 0, 1, 0}, {0, -1, 1, 0}, {0, 3, 1, 0}, {0, 0, 0, 0}, {0, 0, -1, 0},
            {0, 0, 31, 0}, {0, 0, 1, -1}, {0, 0, 1, 400}};
        for (int[] w : wrong) {
            Check.refused("rule" + java.util.Arrays.toString(w), Check.ARGUMENT,
                () -> x.rule(w[0], w[1], w[2], w[3]));
        }
        x.day(5);
        Check.taken("a rule that has ended", () -> x.rule(0, 1, 30, 4));
    }

    private static ReplenishRules withUse() {
        ReplenishRules x = new ReplenishRules();
        x.face(0, 0, 0, 100);
        x.put(0, 0, 100);
        x.use(0, 8);
        return x;
    }

    private static void untilThatDayToo() {
        ReplenishRules x = withUse();
        x.rule(0, 1, 3, 1);
        x.day(1);
        Check.due("on its last day", x.forecast(0), 24);
        x.day(2);
        Check.due("behind its last day", x.forecast(0), 0);
        x.rule(0, 1, 3, 2);
        Check.due("told anew", x.forecast(0), 12);
        Check.refused("a wrong rule", Check.ARGUMENT, () -> x.rule(0, 2, 31, 399));
        Check.due("what is refused changes nothing", x.forecast(0), 12);
    }

    private static void byZone() {
        ReplenishRules x = withUse();
        x.rule(1, 1, 5, 399);
        x.day(1);
        Check.due("the rule of another zone", x.forecast(0), 0);
        x.place(0, 1000, 1);
        Check.due("the rule of its zone", x.forecast(0), 40);
    }

    private static void aheadOfWaves() {
        ReplenishRules x = withUse();
        x.rule(0, 0, 30, 3);
        x.wave(0, 1, 30);
        x.wave(0, 10, 31);
        x.wave(0, 100, 5);
        Check.due("30 days ahead, by FIXED too", x.threshold(0), 101);
        x.day(1);
        Check.due("30 days ahead of day 1", x.threshold(0), 111);
        x.day(4);
        Check.due("one day ahead behind the rule's end", x.threshold(0), 100);
        x.day(6);
        Check.due("nothing from day 6 to 7", x.threshold(0), 0);
    }
}
