/** Runs every test of the project; ends with exit code 1 if a check fails. */
public final class AllTests {
    public static void main(String[] args) {
        FaceTest.run();
        LanguageTest.run();
        TextTest.run();
        ViewTest.run();
        TimeTest.run();
        SupplyTest.run();
        TamperTest.run();
        AlarmTest.run();
        UndoTest.run();
        ForecastTest.run();
        ScriptTest.run();
        SlotTest.run();
        TermEdgeTest.run();
        PromiseEdgeTest.run();
        RefusalTest.run();
        RandomRunTest.run();
        ReadmeTest.run();
        System.out.println(Check.summary());
        if (Check.failures() != 0) {
            System.exit(1);
        }
    }
}
