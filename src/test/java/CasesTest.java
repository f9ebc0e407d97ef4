/** Promise 7: cases. */
public final class CasesTest {
    public static void main(String[] args) {
        ReplenishRules x = new ReplenishRules();
        int[][] wrong = {{-1, 1}, {8, 1}, {0, 0}, {0, -1}, {0, 1001}, {Integer.MAX_VALUE, 1}, {0, Integer.MIN_VALUE}};
        for (int[] w : wrong) {
            Check.refused("cases" + java.util.Arrays.toString(w), Check.ARGUMENT, () -> x.cases(w[0], w[1]));
        }
        Check.taken("cases(0, 1)", () -> x.cases(0, 1));
        Check.taken("cases(7, 1000)", () -> x.cases(7, 1000));
        x.face(0, 3, 10, 10);
        x.put(1, 3, 500);
        Check.due("pieces wanted one by one", planned(x), 10);
        x.cases(3, 10);
        Check.due("it comes out even", planned(x), 10);
        x.cases(3, 7);
        Check.due("one case more", planned(x), 14);
        Check.refused("cases(3, 0)", Check.ARGUMENT, () -> x.cases(3, 0));
        Check.due("what is refused changes nothing", planned(x), 14);
        x.cases(3, 1000);
        x.cases(4, 6);
        Check.due("a case that just fits, from less", planned(x), 500);
        x.put(0, 3, 1);
        Check.due("no room for a case", x.run(), 0);
        Check.finish();
    }

    private static int planned(ReplenishRules x) {
        return x.run() == 0 ? 0 : x.move(0, 2);
    }
}
