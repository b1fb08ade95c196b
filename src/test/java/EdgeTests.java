import java.io.IOException;
import java.nio.file.Path;

/** Each edge that DOC.md names, by its promise, by "Terms" or by "What it is". */
final class EdgeTests {
    private EdgeTests() {
    }

    static void all(Path document, Path readme, Path example) throws IOException {
        Edge.read(document);
        TermsOfLevels.all();
        TermsOfBodies.all();
        TermsOfEnds.all();
        TermsOfWorks.all();
        TermsOfRuns.all();
        EdgesOfLevels.all();
        EdgesOfWorks.all();
        EdgesOfRuns.all();
        BoundsTests.all();
        LifeTests.all();
        ReadmeTests.all(readme, example);
        Edge.allQuoted();
    }
}
