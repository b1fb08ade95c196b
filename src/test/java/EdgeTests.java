import java.io.IOException;
import java.nio.file.Path;

/** Each edge that DOC.md names, by its promise or by "Terms". */
final class EdgeTests {
    private EdgeTests() {
    }

    static void all(Path document) throws IOException {
        Edge.read(document);
        TermsOfLevels.all();
        TermsOfBodies.all();
        TermsOfEnds.all();
        TermsOfWorks.all();
        TermsOfRuns.all();
        EdgesOfLevels.all();
        EdgesOfWorks.all();
        EdgesOfRuns.all();
        BoundsTests.all();
        Edge.allQuoted();
    }
}
