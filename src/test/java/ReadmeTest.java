import java.io.IOException;
import java.nio.file.Files;
import java.nio.file.Path;
import java.util.List;

/** The example of README.md: each of its lines is there as it is here, and answers what it says. */
public final class ReadmeTest {
    private final List<String> lines;
    private int read = 0;

    private ReadmeTest(List<String> lines) {
        this.lines = lines;
    }

    public static void main(String[] args) throws IOException {
        List<String> all = Files.readAllLines(Path.of("README.md"));
        int start = all.indexOf("```java");
        Checks.due("there is an example", start >= 0, true);
        if (start >= 0) {
            List<String> behind = all.subList(start + 1, all.size());
            int end = behind.indexOf("```");
            Checks.due("it has an end", end >= 0, true);
            new ReadmeTest(behind.subList(0, Math.max(0, end))).sing();
        }
        Checks.end();
    }

    private void sing() {
        TeapotChoir choir = new TeapotChoir();
        line("TeapotChoir choir = new TeapotChoir();");
        int low = choir.addPot(3, 0, 12);
        line("int low = choir.addPot(3, 0, 12);       // part, pitch, tea");
        choir.addPot(2, 4, 10);
        line("int middle = choir.addPot(2, 4, 10);");
        choir.addPot(1, 8, 9);
        line("int high = choir.addPot(1, 8, 9);");
        line("choir.isClear();", choir.isClear());
        int late = choir.addPot(0, 25, 20);
        line("int late = choir.addPot(0, 25, 20);");
        line("choir.clashes();", choir.clashes());
        line("choir.harshest();", choir.harshest());
        Checks.due("the harshest is low", low, 0);
        line("choir.bestTuning(late);", choir.bestTuning(late));
        line("choir.beatsUntilCadence();", choir.beatsUntilCadence());
        line("choir.sing(1);", choir.sing(1));
        line("choir.tune(late, -1);", choir.tune(late, -1));
        line("choir.sing(1);", choir.sing(1));
        line("choir.beats();", choir.beats());
        Checks.due("lines of the example", lines.size(), read);
    }

    private String next() {
        String line = read < lines.size() ? lines.get(read) : "";
        read++;
        return line;
    }

    private void line(String want) {
        Checks.due("line " + read + " of the example", next(), want);
    }

    /** The answer stands behind the call, as a comment, up to a colon. */
    private void line(String call, Object answer) {
        String line = next();
        String comment = line.replaceFirst("^.*// ", "").replaceFirst(":.*$", "");
        Checks.due("line " + (read - 1) + " of the example", line.startsWith(call + " "), true);
        Checks.due("what the example says of " + call, comment, String.valueOf(answer));
    }
}
