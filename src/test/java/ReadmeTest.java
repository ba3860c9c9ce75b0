import java.io.IOException;
import java.nio.file.Files;
import java.nio.file.Path;
import java.util.regex.Matcher;
import java.util.regex.Pattern;
import javax.tools.JavaCompiler;
import javax.tools.ToolProvider;

/** The example of README.md, compiled as it stands there, answers what it says behind each arrow. */
public final class ReadmeTest {
    private static final Pattern EXAMPLE = Pattern.compile("```java\n(.*?)```", Pattern.DOTALL);
    private static final Pattern ROW = Pattern.compile("(?:int (\\w+) = )?(x\\..*\\));\\s+// -> (\\w+).*");
    private static final int FEWEST_ROWS = 20;

    public static void main(String[] args) throws IOException, InterruptedException {
        Checks checks = new Checks();
        Matcher example = EXAMPLE.matcher(Files.readString(Path.of("README.md")));
        checks.due("README.md has an example", example.find(), true);
        Path place = Files.createTempDirectory("readme");
        try {
            Path program = place.resolve("Example.java");
            Files.writeString(program, programOf(checks, example.group(1)));
            JavaCompiler compiler = ToolProvider.getSystemJavaCompiler();
            String classes = System.getProperty("java.class.path");
            checks.due("the example compiles", compiler.run(null, null, null, "-cp", classes,
                "-d", place.toString(), program.toString()), 0);
            checks.due("the example answers as it says", play(place + ":" + classes), 0);
        } finally {
            remove(place);
        }
        checks.end();
    }

    private static String programOf(Checks checks, String example) {
        StringBuilder program = new StringBuilder();
        program.append("final class Example {\n    static final int NONE = PoliteGatherer.NONE;\n");
        program.append("    public static void main(String[] args) {\n        Checks checks = new Checks();\n");
        int rows = 0;
        for (String line : example.split("\n")) {
            Matcher row = ROW.matcher(line);
            if (row.matches()) {
                rows++;
                program.append(checkOf(row));
            } else {
                program.append("        ").append(line).append('\n');
            }
        }
        checks.due("rows with an answer: " + rows, rows >= FEWEST_ROWS, true);
        return program.append("        checks.end();\n    }\n}\n").toString();
    }

    /** A call is made once only, so a page's number is kept before it is compared. */
    private static String checkOf(Matcher row) {
        String call = row.group(2);
        String got = row.group(1) == null ? call : row.group(1);
        String kept = row.group(1) == null ? "" : "        int " + got + " = " + call + ";\n";
        return kept + "        checks.due(\"" + call + "\", " + got + ", " + row.group(3) + ");\n";
    }

    private static int play(String classes) throws IOException, InterruptedException {
        String java = Path.of(System.getProperty("java.home"), "bin", "java").toString();
        return new ProcessBuilder(java, "-cp", classes, "Example").inheritIO().start().waitFor();
    }

    private static void remove(Path place) throws IOException {
        try (var files = Files.list(place)) {
            for (Path file : files.toList()) {
                Files.delete(file);
            }
        }
        Files.delete(place);
    }
}
