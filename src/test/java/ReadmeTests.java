import java.io.ByteArrayOutputStream;
import java.io.IOException;
import java.io.PrintStream;
import java.nio.charset.StandardCharsets;
import java.nio.file.Files;
import java.nio.file.Path;

/** What README.md shows: its program is Example.java, which goes through the whole workshop once. */
final class ReadmeTests {
    private ReadmeTests() {
    }

    static void all(Path readme, Path example) throws IOException {
        String page = Files.readString(readme, StandardCharsets.UTF_8);
        String program = Files.readString(example, StandardCharsets.UTF_8);
        Edge.whatItIs("A workshop of platform levels");
        Check.due("what the program prints", shown(page, "text"), printed());
        Check.begin("README.md");
        Check.due("the program", shown(page, "java"), program.substring(program.indexOf("public final class")));
    }

    /** The text between the marks of the only block of this kind. */
    private static String shown(String page, String kind) {
        String mark = "```" + kind + "\n";
        int from = page.indexOf(mark);
        int to = page.indexOf("```", from + mark.length());
        return from < 0 || to < 0 ? "no block of " + kind : page.substring(from + mark.length(), to);
    }

    private static String printed() {
        PrintStream before = System.out;
        ByteArrayOutputStream bytes = new ByteArrayOutputStream();
        try (PrintStream caught = new PrintStream(bytes, true, StandardCharsets.UTF_8)) {
            System.setOut(caught);
            Example.main(new String[0]);
        } finally {
            System.setOut(before);
        }
        return bytes.toString(StandardCharsets.UTF_8).replace(System.lineSeparator(), "\n");
    }
}
