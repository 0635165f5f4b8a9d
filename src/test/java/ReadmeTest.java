import java.io.IOException;
import java.lang.reflect.Method;
import java.lang.reflect.Modifier;
import java.nio.file.Files;
import java.nio.file.Path;
import java.util.HashMap;
import java.util.List;
import java.util.Map;
import java.util.regex.Matcher;
import java.util.regex.Pattern;
import java.util.stream.Collectors;

/**
 * README.md says how to use the class: its example stands here too, line by line, and answers what
 * is written behind its lines. It is started in the folder of the project, as .ci/run does it.
 */
public final class ReadmeTest {
    private static final Path README = Path.of("README.md");
    private static final Path THIS = Path.of("src", "test", "java", "ReadmeTest.java");

    /** A line of the example that names its answer and tells it, as in "// 4571: the tide". */
    private static final Pattern TOLD =
            Pattern.compile("\\w+ (\\w+) = [^;]*; +// ([^:]+): .*");

    private final Due due = new Due();

    public static void main(String[] args) throws IOException {
        ReadmeTest test = new ReadmeTest();
        String readme = Files.readString(README);
        List<String> example = between(Files.readAllLines(README), "```java", "```");
        test.example(example);
        test.calls(readme);
        test.tests(readme);
        test.due.end("ReadmeTest");
    }

    private void example(List<String> example) throws IOException {
        List<String> lines = Files.readAllLines(THIS);
        List<String> tried = between(lines, "// README: from here", "// to here");
        due.same("the example is tried here", tried.toString(), example.toString());
        Map<String, String> answers = answers();
        int told = 0;
        for (String line : example) {
            Matcher named = TOLD.matcher(line);
            if (named.matches()) {
                told++;
                due.same(line, String.valueOf(answers.get(named.group(1))), named.group(2));
            }
        }
        due.same("answers that are told", told, answers.size());
    }

    private void calls(String readme) {
        for (Method one : TideTable.class.getDeclaredMethods()) {
            if (Modifier.isPublic(one.getModifiers())) {
                due.same("README.md tells " + one.getName(),
                        readme.contains("`" + one.getName() + "("), true);
            }
        }
    }

    private void tests(String readme) throws IOException {
        due.same("README.md tells how to run the tests", readme.contains("\n.ci/run\n"), true);
        try (var files = Files.list(THIS.getParent())) {
            for (Path file : files.collect(Collectors.toList())) {
                String name = file.getFileName().toString().replace(".java", "");
                due.same("README.md tells " + name, readme.contains("`" + name + "`"), true);
            }
        }
    }

    private static List<String> between(List<String> lines, String first, String last) {
        List<String> stripped = lines.stream().map(String::strip).collect(Collectors.toList());
        int begin = stripped.indexOf(first) + 1;
        int end = begin + stripped.subList(begin, stripped.size()).indexOf(last);
        return stripped.subList(begin, Math.max(begin, end));
    }

    private static Map<String, String> answers() {
        // README: from here
        TideTable table = new TideTable();
        table.addWave(2000, 745, 0);                // range in mm, period and offset in minutes
        table.setLevel(3000);                       // the mean level
        int height = table.height(100);             // 4571: the tide at minute 100
        int high = table.next(0, true);             // 0: the number of the first high water
        int time = table.water(high, 0);            // 183: its minute
        int top = table.water(high, 1);             // 4999: its height
        int lowest = table.datum(1);                // 1001: the least height of all minutes

        int port = table.addPort();                 // 0: a port that follows the chief one
        table.setPort(port, true, 30, 80);          // highs 30 minutes later, 80 hundredths as high
        table.setPort(port, false, 50, 60);         // lows 50 minutes later, 60 hundredths as high
        table.setAddition(port, 100);               // and all heights 100 mm more
        boolean isInOrder = table.isInOrder(port);  // true: so heights between its waters are told
        int there = table.portHeight(port, 600);    // 722: by twelfths

        int rows = table.windows(-1, 2500, 0, 1440, 0);      // 2: times of 2500 mm or more
        int minutes = table.windows(port, 2500, 0, 1440, 1); // 547: minutes of them at the port

        table.read(100, 4700);                      // a gauge showed 4700 at minute 100
        table.read(500, 1501);
        double residual = table.residual();         // 215.0: so much more was read, in the mean
        int worst = table.worst();                  // 1: the reading that is farthest off
        int raised = table.adjust();                // 215: the mean level is now so much higher
        // to here
        Map<String, String> answers = new HashMap<>();
        answers.put("height", String.valueOf(height));
        answers.put("high", String.valueOf(high));
        answers.put("time", String.valueOf(time));
        answers.put("top", String.valueOf(top));
        answers.put("lowest", String.valueOf(lowest));
        answers.put("port", String.valueOf(port));
        answers.put("isInOrder", String.valueOf(isInOrder));
        answers.put("there", String.valueOf(there));
        answers.put("rows", String.valueOf(rows));
        answers.put("minutes", String.valueOf(minutes));
        answers.put("residual", String.valueOf(residual));
        answers.put("worst", String.valueOf(worst));
        answers.put("raised", String.valueOf(raised));
        return answers;
    }
}
