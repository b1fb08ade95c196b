import java.io.IOException;
import java.nio.file.Path;

/** Runs every test of the project; the argument is the path of LedgeLevels.java. */
public final class AllTests {
    private AllTests() {
    }

    public static void main(String[] args) throws IOException {
        LevelTests.all();
        SearchTests.all();
        StepTests.all();
        RunTests.all();
        ExchangeTests.all();
        ModelTests.all();
        LanguageTests.all(Path.of(args[0]));
        if (!Check.allAsDue()) {
            System.exit(1);
        }
    }
}
