import java.io.IOException;
import java.nio.file.Path;

/** Runs every test; the arguments are the paths of LedgeLevels.java, DOC.md, README.md and Example.java. */
public final class AllTests {
    private AllTests() {
    }

    public static void main(String[] args) throws IOException {
        if (args.length != 4) {
            System.out.println("needs the paths of LedgeLevels.java, DOC.md, README.md and Example.java");
            System.exit(2);
        }
        LevelTests.all();
        SearchTests.all();
        StepTests.all();
        RunTests.all();
        ExchangeTests.all();
        EdgeTests.all(Path.of(args[1]), Path.of(args[2]), Path.of(args[3]));
        ModelTests.all();
        LanguageTests.all(Path.of(args[0]));
        if (!Check.allAsDue()) {
            System.exit(1);
        }
    }
}
