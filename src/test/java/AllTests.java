import java.io.IOException;
import java.nio.file.Path;

/** Runs every test of the project; the arguments are the paths of LedgeLevels.java and of DOC.md. */
public final class AllTests {
    private AllTests() {
    }

    public static void main(String[] args) throws IOException {
        LevelTests.all();
        SearchTests.all();
        StepTests.all();
        RunTests.all();
        ExchangeTests.all();
        EdgeTests.all(Path.of(args[1]));
        ModelTests.all();
        LanguageTests.all(Path.of(args[0]));
        if (!Check.allAsDue()) {
            System.exit(1);
        }
    }
}
