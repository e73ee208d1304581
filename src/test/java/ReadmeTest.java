import java.io.IOException;
import java.nio.file.Files;
import java.nio.file.Path;
import java.util.Map;
import java.util.regex.Matcher;
import java.util.regex.Pattern;

/** What README.md shows of the class: the answers of its example, and its table of errors. */
final class ReadmeTest {
    private static final Pattern CALL = Pattern.compile("^ {4}x\\.(\\w+)\\(([^)]*)\\);\\s*// (-?[0-9.]+):", Pattern.MULTILINE);
    private static final Pattern ERROR = Pattern.compile("^\\| `(\\w+)` \\| (-?\\d+) \\|", Pattern.MULTILINE);
    private static final Map<String, Integer> ERRORS = Map.of(
        "INVALID_ARGUMENT", ZoneSampler.INVALID_ARGUMENT, "NOT_POSSIBLE", ZoneSampler.NOT_POSSIBLE,
        "LIMIT_REACHED", ZoneSampler.LIMIT_REACHED, "NOT_FOUND", ZoneSampler.NOT_FOUND);

    private final Check check = new Check();
    private final String text;

    private ReadmeTest(String text) {
        this.text = text;
    }

    private void example() {
        check.about("the example");
        ZoneSampler x = new ZoneSampler();
        int calls = 0;
        for (Matcher m = CALL.matcher(text); m.find(); calls++) {
            check.same(m.group(), Model.call(x, m.group(1), numbers(m.group(2))), Double.parseDouble(m.group(3)));
        }
        check.same("calls with an answer", calls, text.split("\n {4}x\\.", -1).length - 1);
        check.yes("there are calls", calls > 0);
    }

    private static int[] numbers(String list) {
        String[] parts = list.isEmpty() ? new String[0] : list.split(", ");
        int[] numbers = new int[parts.length];
        for (int i = 0; i < parts.length; i++) {
            numbers[i] = Integer.parseInt(parts[i]);
        }
        return numbers;
    }

    private void errors() {
        check.about("the errors");
        int rows = 0;
        for (Matcher m = ERROR.matcher(text); m.find(); rows++) {
            Integer answer = ERRORS.get(m.group(1));
            check.yes(m.group(1) + " is a constant of the class", answer != null);
            check.same(m.group(1), Integer.parseInt(m.group(2)), answer == null ? 0 : answer);
        }
        check.same("rows", rows, ERRORS.size());
    }

    public static void main(String[] args) throws IOException {
        ReadmeTest test = new ReadmeTest(Files.readString(Path.of("README.md")));
        test.example();
        test.errors();
        test.check.end();
    }
}
