import java.io.IOException;
import java.nio.file.Files;
import java.nio.file.Path;
import java.util.ArrayList;
import java.util.List;
import java.util.regex.Matcher;
import java.util.regex.Pattern;
import javax.tools.ToolProvider;

/** Runs the examples of README.md: each line that ends in a comment must answer what the comment begins with. */
public final class ReadmeTest {
    private static final Pattern ANSWERED =
            Pattern.compile("(?:int (\\w+) = )?(.+);\\s+// (-?\\d+|true|false|NONE)(?::.*)?");
    private static final int EXAMPLES = 3;

    public static void main(String[] args) throws Exception {
        List<List<String>> examples = examples();
        Check.due("examples of README.md", examples.size(), EXAMPLES);
        Path dir = Files.createTempDirectory("readme");
        try {
            runAll(examples, dir);
        } finally {
            deleteAll(dir);
        }
        Check.end();
    }

    private static List<List<String>> examples() throws IOException {
        List<List<String>> examples = new ArrayList<>();
        boolean inside = false;
        for (String line : Files.readAllLines(Path.of("README.md"))) {
            if (line.equals("```java")) {
                inside = true;
                examples.add(new ArrayList<>());
            } else if (line.equals("```")) {
                inside = false;
            } else if (inside) {
                examples.get(examples.size() - 1).add(line);
            }
        }
        return examples;
    }

    private static void runAll(List<List<String>> examples, Path dir) throws Exception {
        Path source = dir.resolve("Examples.java");
        Files.writeString(source, program(examples));
        String path = System.getProperty("java.class.path");
        int ended = ToolProvider.getSystemJavaCompiler()
                .run(null, null, null, "-cp", path, "-d", path, source.toString());
        Check.due("compiling the examples", ended, 0);
        if (ended == 0) {
            Class.forName("Examples").getDeclaredMethod("run").invoke(null);
        }
    }

    private static String program(List<List<String>> examples) {
        StringBuilder text = new StringBuilder("final class Examples {\n  static void run() {\n");
        for (List<String> example : examples) {
            text.append("    {\n");
            for (String line : example) {
                text.append("      ").append(asked(line)).append('\n');
            }
            text.append("    }\n");
        }
        return text.append("  }\n}\n").toString();
    }

    private static String asked(String line) {
        Matcher m = ANSWERED.matcher(line);
        if (!m.matches()) {
            Check.no("README.md tells an answer in a form that is not asked: " + line, line.contains("//"));
            return line;
        }
        String name = m.group(1);
        String ahead = name == null ? "" : "int " + name + " = " + m.group(2) + "; ";
        String call = name == null ? m.group(2) : name;
        String told = "\"README.md: " + m.group(2) + "\"";
        switch (m.group(3)) {
            case "true":
                return "Check.yes(" + told + ", " + call + ");";
            case "false":
                return "Check.no(" + told + ", " + call + ");";
            default:
                String due = m.group(3).equals("NONE") ? "SeasonOfHours.NONE" : m.group(3);
                return ahead + "Check.due(" + told + ", " + call + ", " + due + ");";
        }
    }

    private static void deleteAll(Path dir) throws IOException {
        Files.deleteIfExists(dir.resolve("Examples.java"));
        Files.delete(dir);
    }
}
