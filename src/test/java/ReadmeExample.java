import java.io.IOException;
import java.nio.file.Files;
import java.nio.file.Path;
import java.util.regex.Matcher;
import java.util.regex.Pattern;

/** The calls of README.md's example, each with the answer that stands behind it there. */
public final class ReadmeExample {
    private static final Pattern CALL = Pattern.compile("finder\\.(\\w+)\\((.*)\\); *// (throws \\w+|-?\\w+)\\b.*");

    public static void main(String[] args) throws IOException {
        TwinFinder finder = new TwinFinder();
        int calls = 0;
        int wrong = 0;
        for (String line : Files.readAllLines(Path.of("README.md"))) {
            if (line.startsWith("finder.")) {
                calls++;
                wrong += answersAsTold(finder, line) ? 0 : 1;
            }
        }
        System.out.println(calls + " calls, " + wrong + " answers are not as told");
        if (calls == 0 || wrong != 0) {
            System.exit(1);
        }
    }

    private static boolean answersAsTold(TwinFinder finder, String line) {
        Matcher call = CALL.matcher(line);
        if (!call.matches()) {
            System.out.println(line + " tells no answer");
            return false;
        }
        String got = Face.answer(finder, Face.named(call.group(1)), numbers(call.group(2)));
        if (!got.equals(call.group(3))) {
            System.out.println(line + " answered " + got);
            return false;
        }
        return true;
    }

    private static Object[] numbers(String list) {
        String[] written = list.isEmpty() ? new String[0] : list.split(", ");
        Object[] numbers = new Object[written.length];
        for (int i = 0; i < written.length; i++) {
            numbers[i] = Integer.decode(written[i]);
        }
        return numbers;
    }
}
