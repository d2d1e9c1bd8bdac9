import java.util.NoSuchElementException;
import java.util.function.IntUnaryOperator;

/** A TwinFinder whose exceptions are numbers too, and which sees to it that no test needs more calls than promised. */
final class Finder {
    static final int NONE = TwinFinder.NONE;
    static final int ILLEGAL = -1001;
    static final int NO_SUCH = -1002;
    static final int CALLS = 512;

    private final TwinFinder finder = new TwinFinder();
    private final int mostCalls;
    private int calls;

    Finder() {
        this(CALLS);
    }

    private Finder(int mostCalls) {
        this.mostCalls = mostCalls;
    }

    /** Its answers behind the 512th call are free by the document; the class keeps its rules there too. */
    static Finder beyondThePromisedCalls() {
        return new Finder(Integer.MAX_VALUE);
    }

    /** One in which single bytes are shingles: its texts are sets of signs. */
    static Finder ofSigns(String... texts) {
        return of(0, 1, texts);
    }

    static Finder of(int sort, int k, String... texts) {
        Finder x = new Finder();
        x.mode(sort, k);
        x.addTexts(texts);
        return x;
    }

    /** One with documents 0, 2, 3 and six bytes on its tape; of all that can be told something is. */
    static Finder withSomeOfAll() {
        Finder x = ofSigns("abcd", "xyz", "abce", "");
        x.remove(1);
        x.tell(1, 65520, 65520);
        x.exchange(2, 0, 3);
        x.bands(8, 2);
        x.threshold(3, 5);
        x.type("Ta, pe");
        return x;
    }

    private TwinFinder call() {
        calls++;
        if (calls > mostCalls) {
            throw new IllegalStateException("the test makes more than " + mostCalls + " calls of one object");
        }
        return finder;
    }

    // ---- the face

    int feed(int a, int b, int c, int d, int e) {
        return call().feed(a, b, c, d, e);
    }

    boolean end(int n) {
        return call().end(n);
    }

    int add() {
        return call().add();
    }

    boolean remove(int d) {
        return call().remove(d);
    }

    int mode(int sort, int k) {
        try {
            return call().mode(sort, k);
        } catch (IllegalArgumentException e) {
            return told(e, IllegalArgumentException.class, ILLEGAL);
        }
    }

    boolean tell(int j, int a, int b) {
        return call().tell(j, a, b);
    }

    int exchange(int j, int x, int y) {
        return call().exchange(j, x, y);
    }

    int image(int j, int x) {
        return call().image(j, x);
    }

    boolean bands(int b, int r) {
        return call().bands(b, r);
    }

    boolean threshold(int p, int q) {
        return call().threshold(p, q);
    }

    int document(int d, int what) {
        return orNoSuch(of -> of.document(d, what));
    }

    int shingle(int d, int i) {
        return orNoSuch(of -> of.shingle(d, i));
    }

    int letter(int number, int k) {
        return call().letter(number, k);
    }

    int signature(int d, int j) {
        return orNoSuch(of -> of.signature(d, j));
    }

    int both(int a, int b, int what) {
        return orNoSuch(of -> of.both(a, b, what));
    }

    int pairs(int sort) {
        return call().pairs(sort);
    }

    int pair(int sort, int i, int what) {
        return call().pair(sort, i, what);
    }

    int nearest(int d, int i) {
        return orNoSuch(of -> of.nearest(d, i));
    }

    int count(int what) {
        return call().count(what);
    }

    private interface Question {
        int askedOf(TwinFinder finder);
    }

    private int orNoSuch(Question question) {
        try {
            return question.askedOf(call());
        } catch (NoSuchElementException e) {
            return told(e, NoSuchElementException.class, NO_SUCH);
        }
    }

    /** The exception that the document names, and no kind of it. */
    private static int told(RuntimeException got, Class<?> named, int answer) {
        if (got.getClass() != named) {
            throw got;
        }
        return answer;
    }

    // ---- texts

    /** The text comes behind the tape. */
    void type(String text) {
        int[] five = new int[5];
        for (int from = 0; from < text.length(); from += 20) {
            for (int i = 0; i < 20; i++) {
                int sign = from + i < text.length() ? text.charAt(from + i) : 0;
                five[i / 4] = five[i / 4] << 8 | sign;
            }
            int length = feed(five[0], five[1], five[2], five[3], five[4]);
            if (length == NONE) {
                throw new IllegalStateException("the test types more than the tape takes");
            }
            if (from + 20 > text.length()) {
                end(length - 20 + text.length() - from);
            }
        }
    }

    int addText(String text) {
        type(text);
        return add();
    }

    void addTexts(String... texts) {
        for (String text : texts) {
            addText(text);
        }
    }

    // ---- rows of answers

    /** Answers for 0, 1, .. up to the first that is none, with blanks between. */
    private static String row(IntUnaryOperator answer) {
        StringBuilder all = new StringBuilder();
        for (int i = 0; i < CALLS; i++) {
            int one = answer.applyAsInt(i);
            if (one == NONE) {
                break;
            }
            all.append(i == 0 ? "" : " ").append(one);
            if (one == NO_SUCH) {
                break;
            }
        }
        return all.toString();
    }

    private static String row(int length, IntUnaryOperator answer) {
        StringBuilder all = new StringBuilder();
        for (int i = 0; i < length; i++) {
            all.append(i == 0 ? "" : " ").append(answer.applyAsInt(i));
        }
        return all.toString();
    }

    String shingles(int d) {
        return row(i -> shingle(d, i));
    }

    String spelled(int number) {
        StringBuilder all = new StringBuilder();
        for (int k = 0; k < CALLS; k++) {
            int sign = letter(number, k);
            if (sign == NONE) {
                break;
            }
            all.append((char) sign);
        }
        return all.toString();
    }

    String documents(int d) {
        return row(4, what -> document(d, what));
    }

    String boths(int a, int b) {
        return row(5, what -> both(a, b, what));
    }

    String ranks(int d) {
        return row(i -> nearest(d, i));
    }

    /** Pairs as 0-1 0-2, families as their numbers. */
    String pairRow(int sort) {
        StringBuilder all = new StringBuilder();
        for (int i = 0; i < CALLS; i++) {
            int first = pair(sort, i, 0);
            if (first == NONE) {
                break;
            }
            all.append(i == 0 ? "" : " ").append(first);
            if (sort < 2) {
                all.append('-').append(pair(sort, i, 1));
            }
        }
        return all.toString();
    }

    String pairCounts() {
        return row(4, this::pairs);
    }

    String counts() {
        return row(13, this::count);
    }

    /** All that can be seen of one with some of all, in the end by adding what its tape has. */
    String lookAtAll() {
        StringBuilder all = new StringBuilder(counts());
        for (int d = 0; d < 4; d++) {
            all.append("\n document ").append(d).append(": ").append(documents(d));
            all.append(", shingles ").append(shingles(d)).append(", ranks ").append(ranks(d));
            int of = d;
            all.append(", signature ").append(row(4, j -> signature(of, j))).append(' ').append(signature(d, 63));
            all.append(", with 0: ").append(boths(d, 0)).append(", with 2: ").append(boths(d, 2));
        }
        for (int sort = 0; sort < 4; sort++) {
            all.append("\n pairs ").append(pairs(sort)).append(": ").append(pairRow(sort));
        }
        for (int j = 0; j < 4; j++) {
            int of = j;
            all.append("\n images ").append(row(5, x -> image(of, x))).append(' ').append(image(j, 65520));
        }
        int next = add();
        all.append("\n next ").append(next).append(": ").append(shingles(next));
        int numbers = count(4);
        for (int number = 0; number < numbers; number++) {
            all.append(' ').append(spelled(number));
        }
        return all.toString();
    }
}
