import java.io.IOException;
import java.nio.file.Files;
import java.nio.file.Path;

/** The examples of the document, as they stand at the end of its "Terms". */
public final class ExamplesTest {
    public static void main(String[] args) throws IOException {
        int examples = 0;
        boolean inside = false;
        for (String line : Files.readAllLines(Path.of("../shared/DOC.md"))) {
            inside = line.startsWith("Examples:") || inside && line.startsWith("- ");
            if (inside && line.startsWith("- ")) {
                examples++;
                Script.run("example " + examples, line.substring("- ".length(), line.lastIndexOf('.')));
            }
        }
        Script.due("Examples", "are there any", "" + (examples > 0), "true");
        Script.finish("ExamplesTest");
    }
}
