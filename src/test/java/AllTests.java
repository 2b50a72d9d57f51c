/** Runs every test of the project. */
public final class AllTests {
    private AllTests() {
    }

    public static void main(String[] args) {
        FaceTest.run();
        InputTest.run();
        SetupTextTest.run();
        GuestTest.run();
        RiddleTest.run();
        ListTest.run();
        DoorTest.run();
        RefusalTest.run();
        ForecastTest.run();
        SumTest.run();
        ChangeTest.run();
        UndoTest.run();
        OutputTest.run();
        FullHouseTest.run();
        BufferEdgeTest.run();
        TokenEdgeTest.run();
        StatementEdgeTest.run();
        NumberEdgeTest.run();
        RangeEdgeTest.run();
        AskEdgeTest.run();
        DoorEdgeTest.run();
        ForecastEdgeTest.run();
        UndoEdgeTest.run();
        CallLimitTest.run();
        RandomRunsTest.run();
        if (!Check.finish()) {
            System.exit(1);
        }
    }
}
