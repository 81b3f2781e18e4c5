import java.io.IOException;
import java.nio.file.Files;
import java.nio.file.Path;
import java.util.List;
import java.util.regex.Matcher;
import java.util.regex.Pattern;

/**
 * Makes a test of what README.md shows: all its lines of Java are one run of calls. Where a line is a call alone,
 * what stands behind it, up to a colon, is what is due.
 */
public final class ReadmeRun {
    private static final Pattern ANSWERED = Pattern.compile("(x\\.\\w+\\(.*\\));\\s+// ([^:]+)(: .*)?");

    private static int checks = 0;

    private ReadmeRun() {
    }

    public static void main(String[] args) throws IOException {
        List<String> lines = Files.readAllLines(Path.of(args[0]));
        StringBuilder test = new StringBuilder();
        test.append("public final class ReadmeShownTests {\n");
        test.append("public static void main(String[] args) {\nChecks checks = new Checks();\n");
        boolean isJava = false;
        for (int k = 0; k < lines.size(); k++) {
            String line = lines.get(k);
            if (line.startsWith("```")) {
                isJava = line.equals("```java");
            } else if (isJava) {
                test.append(statement(line.strip(), k + 1)).append('\n');
            }
        }
        if (checks == 0) {
            throw new IllegalStateException("README.md shows no answers");
        }
        System.out.print(test.append("checks.end(\"ReadmeShownTests\");\n}\n}\n"));
    }

    private static String statement(String line, int number) {
        Matcher m = ANSWERED.matcher(line);
        if (!m.matches()) {
            return line;
        }
        checks++;
        String due = m.group(2).strip().replace("throws ", "throws.");
        return "checks.due(\"README.md, line " + number + "\", \"" + due + "\", () -> " + m.group(1) + ");";
    }
}
