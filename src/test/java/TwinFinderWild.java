import java.lang.reflect.Method;
import java.util.HashSet;
import java.util.List;
import java.util.Random;
import java.util.Set;

/** Any arguments in any state, also behind the 512th call: a call throws what the face names, or nothing. */
public final class TwinFinderWild {
    private static final int OBJECTS = 100;
    private static final int CALLS_OF_ONE = 3000;
    // The limits of the document and the edges of an int, with what lies beside them.
    private static final int[] EDGES = {0, 1, 2, 9, 15, 47, 48, 63, 64, 300, 400, 800, 6000, 10000, 50000, 65520, 65521,
        1 << 16, 1 << 26, 1 << 30, Integer.MAX_VALUE, Integer.MIN_VALUE};

    public static void main(String[] args) {
        Set<String> thrown = new HashSet<>();
        for (int seed = 0; seed < OBJECTS; seed++) {
            callMany(new Random(seed), thrown);
        }
        System.out.println(OBJECTS * CALLS_OF_ONE + " wild calls threw nothing but " + thrown);
        if (thrown.size() != 6) {
            System.out.println("six methods are due to throw, and were to be seen doing so");
            System.exit(1);
        }
    }

    private static void callMany(Random random, Set<String> thrown) {
        TwinFinder finder = new TwinFinder();
        int feedsToAnAdd = 1 + random.nextInt(60);
        for (int i = 0; i < CALLS_OF_ONE; i++) {
            // The calls that fill what can be full come more often than the others, some of which empty it again.
            Method method = random.nextInt(8) == 0 ? anyOf(Face.methods(), random)
                : random.nextInt(2) == 0 ? Face.named("exchange")
                : Face.named(random.nextInt(feedsToAnAdd) == 0 ? "add" : "feed");
            String answer = Face.answer(finder, method, argumentsOf(method, random));
            if (answer.startsWith("throws")) {
                thrown.add(method.getName());
            }
        }
    }

    private static Method anyOf(List<Method> methods, Random random) {
        return methods.get(random.nextInt(methods.size()));
    }

    private static Object[] argumentsOf(Method method, Random random) {
        Object[] numbers = new Object[method.getParameterCount()];
        for (int i = 0; i < numbers.length; i++) {
            numbers[i] = method.getName().equals("feed") ? fourSigns(random) : wildNumber(random);
        }
        return numbers;
    }

    /** Mostly letters: a text of any bytes is nearly all blanks, and would never fill the store of shingles. */
    private static int fourSigns(Random random) {
        int four = 0;
        for (int i = 0; i < 4; i++) {
            four = four << 8 | (random.nextInt(20) == 0 ? random.nextInt(256) : 'a' + random.nextInt(26));
        }
        return four;
    }

    private static int wildNumber(Random random) {
        return switch (random.nextInt(5)) {
            case 0 -> EDGES[random.nextInt(EDGES.length)] + random.nextInt(3) - 1;
            case 1 -> random.nextInt();
            case 2 -> random.nextInt(2);
            case 3 -> random.nextInt(10);
            default -> random.nextInt(64);
        };
    }
}
