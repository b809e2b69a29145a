import java.io.File;
import java.io.IOException;
import java.lang.reflect.Method;
import java.lang.reflect.Modifier;
import java.nio.file.Files;
import java.nio.file.Path;
import java.util.List;
import java.util.regex.Matcher;
import java.util.regex.Pattern;

/** README.md tells the truth: its example answers as it says, and its tables leave nothing out. */
public final class ReadmeTest {
    private static final Pattern EXAMPLE =
            Pattern.compile("(int ballot = )?ballots\\.(\\w+)\\((.*)\\); +// (\\S+): .*");

    public static void main(String[] args) throws IOException {
        Checks x = new Checks();
        List<String> lines = Files.readAllLines(Path.of("README.md"));
        example(x, lines);
        calls(x, lines);
        tests(x, String.join("\n", lines));
        x.end("ReadmeTest");
    }

    private static void example(Checks x, List<String> lines) {
        List<String> block = lines.subList(lines.indexOf("```java") + 1, lines.size());
        block = block.subList(0, block.indexOf("```"));
        x.same("the example begins", "ShardBallots ballots = new ShardBallots();", block.get(0));
        ShardBallots ballots = new ShardBallots();
        String ballot = "none";
        for (String line : block.subList(1, block.size())) {
            Matcher parts = EXAMPLE.matcher(line);
            if (parts.matches()) {
                String call = parts.group(2);
                int[] given = numbers(parts.group(3).replace("ballot", ballot));
                String got = Checks.answerOf(() -> Calls.made(ballots, call, given[0], given[1]));
                x.same(line, parts.group(4).replace("ShardBallots.NONE", "" + ShardBallots.NONE), got);
                ballot = parts.group(1) == null ? ballot : got;
            } else {
                x.same("a line of the example", "", line);
            }
        }
    }

    private static int[] numbers(String given) {
        int[] numbers = new int[2];
        String[] words = given.isEmpty() ? new String[0] : given.split(", ");
        for (int word = 0; word < words.length; word++) {
            numbers[word] = Integer.parseInt(words[word]);
        }
        return numbers;
    }

    // A row has the call and the answer, and a ground of refusal if the call has one.
    private static void calls(Checks x, List<String> lines) {
        int rows = 0;
        for (Method method : ShardBallots.class.getDeclaredMethods()) {
            if (!Modifier.isPublic(method.getModifiers())) {
                continue;
            }
            rows++;
            List<Class<?>> thrown = List.of(method.getExceptionTypes());
            boolean refuses = false;
            int found = 0;
            for (String line : lines) {
                if (line.startsWith("| `" + method.getName() + "(")) {
                    found++;
                    String[] cells = line.split("\\|");
                    refuses = !cells[3].isBlank();
                    String given = cells[1].replaceAll(".*\\(|\\).*", "");
                    int parameters = given.isEmpty() ? 0 : given.split(", ").length;
                    x.same(line, "" + method.getParameterCount(), "" + parameters);
                }
            }
            x.same("rows of " + method.getName(), "1", "" + found);
            x.same(method.getName() + " is refused", "" + thrown.contains(IllegalStateException.class), "" + refuses);
        }
        x.same("calls", "22", "" + rows);
    }

    private static void tests(Checks x, String page) {
        File[] files = new File("src/test/java").listFiles();
        x.same("tests are beside the README", "true", "" + (files != null && files.length > 0));
        for (File file : files == null ? new File[0] : files) {
            String name = file.getName().replace(".java", "");
            x.same(name + " is on the page", "true", "" + page.contains("`" + name + "`"));
        }
    }
}
