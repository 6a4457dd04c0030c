import java.io.IOException;

/** Runs every test of the project; its argument is the path of ScanRing.java. */
public final class AllTests {
    private AllTests() {
    }

    public static void main(String[] arguments) throws IOException {
        FaceTests.run(arguments[0]);
        SetupTests.run();
        ScanTests.run();
        TextTests.run();
        LookingTests.run();
        QuestionTests.run();
        ModelTests.run();
        System.out.println(Check.summary());
        if (Check.failures() != 0) {
            System.exit(1);
        }
    }
}
