import java.io.IOException;
import java.nio.file.Files;
import java.nio.file.Path;
import java.util.ArrayList;
import java.util.LinkedHashMap;
import java.util.List;
import java.util.Map;
import java.util.regex.Matcher;
import java.util.regex.Pattern;
import javax.tools.JavaCompiler;
import javax.tools.ToolProvider;

/** The example of README.md compiles beside the class, and each of its calls answers what stands behind it. */
public final class ReadmeTest {
    /** A call, with the name of what it answers if it has one, and its answer up to the first comma. */
    private static final Pattern CALL = Pattern.compile(" *(?:int (\\w+) = )?street\\.(\\w+\\(.*\\)); +// ([^,]+).*");

    public static void main(String[] args) throws IOException {
        List<String> example = example();
        answers(example);
        compiles(example);
        Script.finish("ReadmeTest");
    }

    private static List<String> example() throws IOException {
        List<String> example = new ArrayList<>();
        boolean inside = false;
        for (String line : Files.readAllLines(Path.of("README.md"))) {
            if (line.startsWith("```")) {
                inside = line.equals("```java");
            } else if (inside) {
                example.add(line);
            }
        }
        return example;
    }

    private static void answers(List<String> example) {
        Map<String, String> numbers = new LinkedHashMap<>();
        List<String> script = new ArrayList<>();
        int calls = 0;
        for (String line : example) {
            calls += line.contains("street.") ? 1 : 0;
            Matcher call = CALL.matcher(line);
            if (call.matches()) {
                script.add(withNumbers(call.group(2), numbers) + " = " + call.group(3).replace("throws ", "throws."));
                if (call.group(1) != null) {
                    numbers.put(call.group(1), call.group(3));
                }
            }
        }
        Script.due("README.md", "calls with an answer", "" + script.size(), "" + calls);
        Script.due("README.md", "is there an example", "" + (calls > 0), "true");
        Script.run("README.md", script.toArray(new String[0]));
    }

    private static String withNumbers(String call, Map<String, String> numbers) {
        int open = call.indexOf('(');
        String arguments = call.substring(open);
        for (Map.Entry<String, String> number : numbers.entrySet()) {
            arguments = arguments.replaceAll("\\b" + number.getKey() + "\\b", number.getValue());
        }
        return call.substring(0, open) + arguments;
    }

    private static void compiles(List<String> example) throws IOException {
        Path room = Files.createDirectories(Path.of("build/readme"));
        Path file = room.resolve("ReadmeExample.java");
        Files.writeString(file, "final class ReadmeExample {\n    static void run() {\n        "
            + String.join("\n        ", example) + "\n    }\n}\n");
        JavaCompiler compiler = ToolProvider.getSystemJavaCompiler();
        int failed = compiler.run(null, null, null, "-d", room.toString(), "src/main/java/Cryway.java", file.toString());
        Script.due("README.md", "the example compiles", "" + (failed == 0), "true");
    }
}
