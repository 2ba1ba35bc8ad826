import java.io.IOException;
import java.nio.file.Files;
import java.nio.file.Path;
import java.util.List;
import java.util.regex.Matcher;
import java.util.regex.Pattern;

/** What README.md shows of the class is so: its calls, its texts and its errors, one by one. */
public final class ReadmeTest {
    private static final Pattern TYPED = Pattern.compile("for \\(char c : \"(.*)\"\\.toCharArray.*");
    private static final Pattern CALL = Pattern.compile("forge\\.(\\w+)\\((.*)\\); +// (.*)");
    private static final Pattern TEXT =
            Pattern.compile("\\| `(.*?)` \\| (-?\\d+) \\| (?:`(.*?)` )?\\| (.*?) ?\\|");
    private static final Pattern ERROR = Pattern.compile("\\| (-\\d+) \\| .* \\| `(.*)` \\|");

    public static void main(String[] args) throws IOException {
        List<String> lines = Files.readAllLines(Path.of("README.md"));
        Desk.due("calls", calls(lines), 8);
        Desk.due("texts", texts(lines), 10);
        Desk.due("errors", errors(lines), 15);
        Desk.end();
    }

    private static int calls(List<String> lines) {
        Desk desk = new Desk();
        int shown = 0;
        for (String line : lines) {
            Matcher typed = TYPED.matcher(line);
            Matcher call = CALL.matcher(line);
            if (typed.matches()) {
                desk.type(typed.group(1));
            } else if (call.matches()) {
                shown++;
                Desk.due(line, answer(desk.forge, call.group(1), call.group(2)), call.group(3));
            }
        }
        return shown;
    }

    private static String answer(WordForge forge, String call, String given) {
        String[] numbers = given.split(", ");
        int first = Integer.parseInt(numbers[0]);
        switch (call) {
            case "run":
                return String.valueOf(forge.run(first));
            case "count":
                return String.valueOf(forge.count(first));
            case "output":
                return "'" + forge.output(first) + "'";
            case "cell":
                return String.valueOf(forge.cell(first));
            case "word":
                return String.valueOf(forge.word(first, Integer.parseInt(numbers[1])));
            default:
                return "a call that this test does not know";
        }
    }

    private static int texts(List<String> lines) {
        int shown = 0;
        for (String line : lines) {
            Matcher row = TEXT.matcher(line);
            if (row.matches()) {
                shown++;
                Desk desk = new Desk().answers(row.group(1), Integer.parseInt(row.group(2)));
                desk.wrote(row.group(3) == null ? "" : row.group(3));
                desk.stack(numbers(row.group(4)));
            }
        }
        return shown;
    }

    private static int[] numbers(String shown) {
        if (shown.isEmpty()) {
            return new int[0];
        }
        return Pattern.compile(" ").splitAsStream(shown).mapToInt(Integer::parseInt).toArray();
    }

    private static int errors(List<String> lines) {
        int shown = 0;
        for (String line : lines) {
            Matcher row = ERROR.matcher(line);
            if (row.matches()) {
                shown++;
                new Desk().answers(row.group(2), Integer.parseInt(row.group(1)));
            }
        }
        return shown;
    }
}
