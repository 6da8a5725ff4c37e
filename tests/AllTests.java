/** Runs every test of the project; ends with exit code 1 if one fails. */
public final class AllTests {
    private AllTests() {
    }

    public static void main(String[] arguments) {
        FaceTests.run();
        InputTests.run();
        TextTests.run();
        HouseTests.run();
        DayTests.run();
        PredictionTests.run();
        ChangeTests.run();
        HouseBoundaries.run();
        WatchBoundaries.run();
        TextBoundaries.run();
        CallBoundaries.run();
        AnswerBoundaries.run();
        ModelTests.run();
        System.out.println("AllTests: " + Check.passed + " checks hold, " + Check.failed + " do not");
        if (Check.failed > 0 || Check.passed == 0) {
            System.exit(1);
        }
    }
}
