import java.util.Set;

/** Each word of the document's terms and promises is named by a test, and each call's refusals are tested. */
public final class DocumentTest {
    public static void main(String[] args) {
        runThemAll(args);
        Check.saysNoMore();
        if (!Document.isHere()) {
            System.out.println("the document is not here: what the tests name is not looked up");
        }
        for (String word : Document.unsaid(Check.said())) {
            Check.fail("no test names it: " + word);
        }
        for (int promise = 2; promise <= 20; promise++) {
            refusalsAreTested(promise);
        }
        Check.finish();
    }

    private static void refusalsAreTested(int promise) {
        Set<String> said = Check.said().getOrDefault(promise, Set.of());
        boolean inOrder = said.stream().anyMatch(s -> s.startsWith("REFUSALS, the first that holds"));
        boolean nothing = said.contains("What is refused changes nothing.");
        Check.due("whether the order of promise " + promise + "'s refusals is tested", inOrder, true);
        Check.due("whether promise " + promise + "'s refusals are to change nothing", nothing, true);
    }

    private static void runThemAll(String[] args) {
        NewObjectTest.main(args);
        PlaceTest.main(args);
        FaceTest.main(args);
        PutTest.main(args);
        UseTest.main(args);
        HoldTest.main(args);
        CasesTest.main(args);
        RuleTest.main(args);
        FactorTest.main(args);
        WaveTest.main(args);
        OpenTest.main(args);
        DayTest.main(args);
        MeanTest.main(args);
        ForecastTest.main(args);
        ThresholdTest.main(args);
        AboveTest.main(args);
        RunTest.main(args);
        MoveTest.main(args);
        DoneTest.main(args);
        ToldTest.main(args);
    }
}
