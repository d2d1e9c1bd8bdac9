import java.util.HashSet;
import java.util.Random;
import java.util.Set;

/** Texts for tests that need many shingles. */
final class Texts {
    private static final String SIGNS = "0123456789abcdefghijklmnopqrstuvwxyz";

    private final int k;
    private final Set<String> seen = new HashSet<>();
    private final Random dice = new Random(7);

    private Texts(int k) {
        this.k = k;
    }

    /** Texts in which no k bytes in a row ever come twice, not even in two texts. */
    static Texts unlikeIn(int k) {
        return new Texts(k);
    }

    String next(int length) {
        StringBuilder text = new StringBuilder();
        while (text.length() < length) {
            text.append(SIGNS.charAt(dice.nextInt(SIGNS.length())));
            int n = text.length();
            if (n >= k && !seen.add(text.substring(n - k))) {
                text.setLength(n - 1);
            }
        }
        return text.toString();
    }

    /** Unlike words of three signs, each with a blank behind it: four bytes a word. */
    static String words(int from, int count) {
        StringBuilder text = new StringBuilder();
        for (int w = from; w < from + count; w++) {
            text.append(Integer.toString(36 * 36 + w, 36)).append(' ');
        }
        return text.toString();
    }

    static String numbers(int from, int to) {
        StringBuilder row = new StringBuilder();
        for (int n = from; n <= to; n++) {
            row.append(n == from ? "" : " ").append(n);
        }
        return row.toString();
    }
}
