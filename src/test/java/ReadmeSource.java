import java.io.IOException;
import java.nio.file.Files;
import java.nio.file.Path;
import java.util.ArrayList;
import java.util.List;
import java.util.regex.Matcher;
import java.util.regex.Pattern;

/**
 * Prints a test, ReadmeShownTests, of the pieces of Java that a README shows, one behind the other:
 * each call there is to answer the number behind it, or to throw what is named there.
 */
public final class ReadmeSource {
    private static final String CALL = "(?:x|new PensGo\\(\\))\\.\\w+\\(.*\\)";
    private static final Pattern SHOWN = Pattern.compile(
        "\\s*(?:(int|long) (\\w+) = )?(" + CALL + ");\\s*// (?:(-?\\d+)|throws (\\w+)): \\S.*");
    private static final Pattern ASKS = Pattern.compile("\\s*(?:\\w+ \\w+ = )?" + CALL + ";.*");
    private static final Pattern NAME = Pattern.compile("`(\\w+)`");

    private final List<String> lines;
    private final StringBuilder source = new StringBuilder();
    private final List<String> wrong = new ArrayList<>();
    private int loops;

    private ReadmeSource(List<String> lines) {
        this.lines = lines;
    }

    public static void main(String[] args) throws IOException {
        ReadmeSource readme = new ReadmeSource(Files.readAllLines(Path.of(args[0])));
        readme.writeTest();
        readme.wrong.forEach(System.err::println);
        if (!readme.wrong.isEmpty()) {
            System.exit(1);
        }
        System.out.print(readme.source);
    }

    private void writeTest() {
        source.append("public final class ReadmeShownTests {\n")
            .append("    public static void main(String[] args) {\n")
            .append("        Checks checks = new Checks();\n");
        boolean inPiece = false;
        for (int i = 0; i < lines.size(); i++) {
            if (lines.get(i).startsWith("```")) {
                inPiece = lines.get(i).equals("```java");
            } else if (inPiece) {
                writeLine("README.md:" + (i + 1), lines.get(i));
            }
        }
        source.append("        checks.end();\n    }\n}\n");
        lookForFace();
    }

    private void writeLine(String where, String line) {
        Matcher shown = SHOWN.matcher(line);
        if (shown.matches()) {
            writeCall(where + " " + shown.group(3), shown);
            return;
        }
        if (ASKS.matcher(line).matches() && loops == 0) {
            wrong.add(where + " tells no answer: " + line);
        }
        loops += line.endsWith("{") ? 1 : line.trim().equals("}") ? -1 : 0;
        source.append("        ").append(line).append('\n');
    }

    private void writeCall(String name, Matcher shown) {
        String call = shown.group(3);
        String thrown = shown.group(5);
        if (thrown != null) {
            source.append("        try {\n            ").append(call).append(";\n            ")
                .append(due(name + " throws", "0", "1"))
                .append("        } catch (").append(thrown).append(" due) {\n            ")
                .append(due(name + " throws", "1", "1")).append("        }\n");
            return;
        }
        String kept = shown.group(2);
        if (kept != null) {
            source.append("        ").append(shown.group(1)).append(' ').append(kept)
                .append(" = ").append(call).append(";\n");
        }
        source.append("        ").append(due(name, kept == null ? call : kept, shown.group(4)));
    }

    private static String due(String name, String got, String want) {
        return "checks.due(\"" + name.replace("\\", "\\\\").replace("\"", "\\\"") + "\", " + got
            + ", " + want + ");\n";
    }

    /** Each call of the face is in a piece of Java and once in the table, and no other is there. */
    private void lookForFace() {
        List<String> table = new ArrayList<>();
        for (String line : lines) {
            Matcher name = NAME.matcher(line.startsWith("| `") ? line : "");
            while (name.find()) {
                table.add(name.group(1));
            }
        }
        for (String name : FaceTests.names()) {
            if (!source.toString().contains("." + name + "(")) {
                wrong.add("README.md shows no use of " + name);
            }
            if (!table.remove(name)) {
                wrong.add("README.md's table lacks " + name);
            }
        }
        if (!table.isEmpty()) {
            wrong.add("README.md's table has too much: " + table);
        }
    }
}
