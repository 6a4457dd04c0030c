import java.io.IOException;
import java.nio.file.Path;

/** Runs every test of the project; its arguments are the paths of ScanRing.java, README.md and DOC.md. */
public final class AllTests {
    private AllTests() {
    }

    public static void main(String[] arguments) throws IOException, ReflectiveOperationException {
        FaceTests.run();
        LanguageTests.run(Path.of(arguments[0]));
        ReadmeTests.run(Path.of(arguments[1]));
        SetupTests.run();
        ScanTests.run();
        TextTests.run();
        LookingTests.run();
        QuestionTests.run();
        TermBounds.run();
        ListBounds.run();
        UndoBounds.run();
        SetupBounds.run();
        ScanBounds.run();
        TextBounds.run();
        LookingBounds.run();
        QuestionBounds.run();
        Sentences.areOfTheDocument(Path.of(arguments[2]));
        ModelTests.run();
        System.out.println(Check.summary());
        if (Check.failures() != 0) {
            System.exit(1);
        }
    }
}
