/** Promise 7: cases. */
public final class CasesTest {
    public static void main(String[] args) {
        numbers();
        byGood();
        Check.refusalsInOrder(7);
        Warehouse.refused("neither number is one", Check.ARGUMENT, x -> x.cases(8, 0));
        Check.finish();
    }

    private static void numbers() {
        Check.says(7, "hold pieces of one good (0 .. 7)");
        Warehouse.range("cases(n, 7)", 0, 7, (x, n) -> x.cases(n, 7));
        Check.says(7, "A good comes in cases of 1 .. 1000. IllegalArgumentException.");
        Warehouse.range("cases(1, n)", 1, 1000, (x, n) -> x.cases(1, n));
    }

    private static void byGood() {
        Check.says(7, "A good comes in CASES of so many pieces (1 at first).");
        ReplenishRules x = new ReplenishRules();
        x.face(0, 3, 10, 10);
        x.put(1, 3, 1000);
        Check.runPlans("at first", x, 10);
        x.cases(2, 7);
        x.cases(4, 7);
        Check.runPlans("other goods' cases", x, 10);
        x.cases(3, 10);
        Check.runPlans("just one case", x, 10);
        x.cases(3, 7);
        Check.runPlans("one more of 7", x, 14);
        x.cases(3, 1);
        Check.runPlans("one by one again", x, 10);
        x.cases(3, 1000);
        Check.runPlans("a case of just the room", x, 1000);
        x.put(0, 3, 1);
        Check.runPlans("no room for a case", x, 0);
    }
}
