import java.util.ArrayList;
import java.util.HashMap;
import java.util.List;
import java.util.Map;
import java.util.Random;
import java.util.TreeMap;
import java.util.TreeSet;

/** Mixed runs of calls, each answered by the class and by a slow model that follows the document's words. */
public final class TwinFinderModel {
    private static final int CALLS = Finder.CALLS;
    private static final int RUNS_A_KIND = 30;
    private static final long ILLEGAL = Finder.ILLEGAL;
    private static final long NO_SUCH = Finder.NO_SUCH;
    private static int wrong = 0;
    private static long calls = 0;

    public static void main(String[] args) {
        for (int kind = 0; kind < 6; kind++) {
            for (int run = 0; run < RUNS_A_KIND && wrong < 20; run++) {
                new Run(kind, 1000L * kind + run).go();
            }
        }
        System.out.println(calls + " calls compared, " + wrong + " answers are not as due");
        if (wrong != 0) {
            System.exit(1);
        }
    }

    // ---- the model

    private static final class Model {
        String tape = "";
        int sort = 0;
        int k = 4;
        int b = 16;
        int r = 4;
        int p = 1;
        int q = 2;
        int came = 0;
        final TreeMap<Integer, TreeSet<Integer>> there = new TreeMap<>();
        Map<String, Integer> numbers = new HashMap<>();
        List<String> shingles = new ArrayList<>();
        final int[][] table = new int[64][];
        final int[] exchanges = new int[64];

        static String plain(String text) {
            StringBuilder out = new StringBuilder();
            for (char c : text.toCharArray()) {
                if (c >= 'A' && c <= 'Z') {
                    c += 32;
                }
                out.append((c >= 'a' && c <= 'z') || (c >= '0' && c <= '9') ? c : ' ');
            }
            return out.toString().replaceAll(" +", " ").trim();
        }

        List<String> shinglesOf(String text) {
            List<String> out = new ArrayList<>();
            String plain = plain(text);
            if (sort == 0) {
                for (int i = 0; i + k <= plain.length(); i++) {
                    out.add(plain.substring(i, i + k));
                }
            } else if (!plain.isEmpty()) {
                List<String> words = List.of(plain.split(" "));
                for (int i = 0; i + k <= words.size(); i++) {
                    out.add(String.join(" ", words.subList(i, i + k)));
                }
            }
            return out;
        }

        int feed(int... five) {
            if (tape.length() + 20 > 800) {
                return -1;
            }
            StringBuilder more = new StringBuilder();
            for (int n : five) {
                for (int shift = 24; shift >= 0; shift -= 8) {
                    more.append((char) (n >> shift & 255));
                }
            }
            tape += more;
            return tape.length();
        }

        int end(int n) {
            if (n < 0 || n > tape.length()) {
                return 0;
            }
            tape = tape.substring(0, n);
            return 1;
        }

        int bytes(List<String> row) {
            return row.stream().mapToInt(String::length).sum();
        }

        int add() {
            String text = tape;
            tape = "";
            Map<String, Integer> later = new HashMap<>(numbers);
            List<String> row = new ArrayList<>(shingles);
            TreeSet<Integer> set = new TreeSet<>();
            for (String s : shinglesOf(text)) {
                if (!later.containsKey(s)) {
                    later.put(s, row.size());
                    row.add(s);
                }
                set.add(later.get(s));
            }
            if (there.size() == 48 || came == 400 || row.size() > 6000 || bytes(row) > 50000) {
                return -1;
            }
            numbers = later;
            shingles = row;
            there.put(came, set);
            return came++;
        }

        int remove(int d) {
            return there.remove(d) == null ? 0 : 1;
        }

        long mode(int newSort, int newK) {
            if (newSort < 0 || newSort > 1 || newK < 1 || newK > 9) {
                return ILLEGAL;
            }
            int went = there.size();
            there.clear();
            numbers.clear();
            shingles.clear();
            came = 0;
            sort = newSort;
            k = newK;
            return went;
        }

        int[] tableOf(int j) {
            if (table[j] == null) {
                fill(j, 1, 0);
            }
            return table[j];
        }

        void fill(int j, long a, long c) {
            table[j] = new int[65521];
            for (int x = 0; x < 65521; x++) {
                table[j][x] = (int) ((a * x + c) % 65521);
            }
        }

        int tell(int j, int a, int c) {
            if (j < 0 || j > 63 || a < 1 || a > 65520 || c < 0 || c > 65520) {
                return 0;
            }
            fill(j, a, c);
            exchanges[j] = 0;
            return 1;
        }

        int kept() {
            int sum = 0;
            for (int n : exchanges) {
                sum += n;
            }
            return sum;
        }

        int exchange(int j, int x, int y) {
            if (j < 0 || j > 63 || x < 0 || x > 65520 || y < 0 || y > 65520 || kept() == 300) {
                return -1;
            }
            int[] t = tableOf(j);
            int old = t[x];
            t[x] = t[y];
            t[y] = old;
            exchanges[j]++;
            return kept();
        }

        int image(int j, int x) {
            return j < 0 || j > 63 || x < 0 || x > 65520 ? -1 : table[j] == null ? x : table[j][x];
        }

        int bands(int newB, int newR) {
            if (newB < 1 || newR < 1 || (long) newB * newR > 64) {
                return 0;
            }
            b = newB;
            r = newR;
            return 1;
        }

        int threshold(int newP, int newQ) {
            if (newP < 0 || newP > newQ || newQ > 10000 || newQ < 1) {
                return 0;
            }
            p = newP;
            q = newQ;
            return 1;
        }

        long leastImage(int d, int j) {
            int least = 65521;
            for (int n : there.get(d)) {
                least = Math.min(least, image(j, n));
            }
            return least;
        }

        int common(int d, int e) {
            TreeSet<Integer> set = new TreeSet<>(there.get(d));
            set.retainAll(there.get(e));
            return set.size();
        }

        int all(int d, int e) {
            TreeSet<Integer> set = new TreeSet<>(there.get(d));
            set.addAll(there.get(e));
            return set.size();
        }

        int firstBand(int d, int e) {
            if (there.get(d).isEmpty() || there.get(e).isEmpty()) {
                return -1;
            }
            for (int band = 0; band < b; band++) {
                boolean same = true;
                for (int row = 0; row < r && same; row++) {
                    same = leastImage(d, band * r + row) == leastImage(e, band * r + row);
                }
                if (same) {
                    return band;
                }
            }
            return -1;
        }

        boolean twins(int d, int e) {
            return firstBand(d, e) >= 0 && (long) common(d, e) * q >= (long) p * all(d, e);
        }

        TreeSet<Integer> family(int d) {
            TreeSet<Integer> found = new TreeSet<>(List.of(d));
            List<Integer> open = new ArrayList<>(found);
            while (!open.isEmpty()) {
                int at = open.remove(0);
                for (int e : there.keySet()) {
                    if (e != at && !found.contains(e) && twins(at, e)) {
                        found.add(e);
                        open.add(e);
                    }
                }
            }
            return found;
        }

        long document(int d, int what) {
            if (!there.containsKey(d) || what < 0 || what > 3) {
                return NO_SUCH;
            }
            if (what == 3) {
                return there.keySet().stream().filter(e -> e != d && twins(d, e)).count();
            }
            return what == 0 ? there.get(d).size() : what == 1 ? family(d).first() : family(d).size();
        }

        long shingle(int d, int i) {
            if (!there.containsKey(d)) {
                return NO_SUCH;
            }
            List<Integer> row = new ArrayList<>(there.get(d));
            return i < 0 || i >= row.size() ? -1 : row.get(i);
        }

        int letter(int number, int at) {
            boolean is = number >= 0 && number < shingles.size() && at >= 0 && at < shingles.get(number).length();
            return is ? shingles.get(number).charAt(at) : -1;
        }

        long signature(int d, int j) {
            return !there.containsKey(d) || j < 0 || j > 63 ? NO_SUCH : leastImage(d, j);
        }

        long both(int d, int e, int what) {
            if (!there.containsKey(d) || !there.containsKey(e) || what < 0 || what > 4) {
                return NO_SUCH;
            }
            if (what == 2) {
                int same = 0;
                for (int j = 0; j < b * r; j++) {
                    same += leastImage(d, j) == leastImage(e, j) ? 1 : 0;
                }
                return same;
            }
            return what == 0 ? common(d, e) : what == 1 ? all(d, e) : what == 3 ? firstBand(d, e) : twins(d, e) ? 1 : 0;
        }

        List<int[]> pairRow(int of) {
            List<int[]> row = new ArrayList<>();
            for (int d : there.keySet()) {
                if (of < 2) {
                    for (int e : there.tailMap(d, false).keySet()) {
                        if (of == 0 ? firstBand(d, e) >= 0 : twins(d, e)) {
                            row.add(new int[] {d, e});
                        }
                    }
                } else {
                    TreeSet<Integer> family = family(d);
                    if (family.first() == d && (of == 3 || family.size() > 1)) {
                        row.add(new int[] {d});
                    }
                }
            }
            return row;
        }

        int pairs(int of) {
            return of < 0 || of > 3 ? -1 : pairRow(of).size();
        }

        int pair(int of, int i, int what) {
            if (of < 0 || of > 3) {
                return -1;
            }
            List<int[]> row = pairRow(of);
            return i < 0 || i >= row.size() || what < 0 || what >= row.get(i).length ? -1 : row.get(i)[what];
        }

        long nearest(int d, int i) {
            if (!there.containsKey(d)) {
                return NO_SUCH;
            }
            List<Integer> others = new ArrayList<>(there.keySet());
            others.remove(Integer.valueOf(d));
            others.sort((e, f) -> Long.compare(
                (long) common(d, f) * Math.max(1, all(d, e)), (long) common(d, e) * Math.max(1, all(d, f))));
            return i < 0 || i >= others.size() ? -1 : others.get(i);
        }

        int count(int what) {
            int[] all = {tape.length(), plain(tape).length(), there.size(), came, shingles.size(), bytes(shingles),
                kept(), b, r, p, q, sort, k};
            return what < 0 || what >= all.length ? -1 : all[what];
        }
    }

    // ---- a run

    private static final class Run {
        // What a run does most: 0 a bit of all, 1 few signs, 2 words, 3 long texts, 4 exchanges, 5 many documents.
        private final int kind;
        private final long seed;
        private final Random dice;
        // The last step of a run may go a few calls too far; their answers are not compared.
        private final Finder x = Finder.beyondThePromisedCalls();
        private final Model m = new Model();
        private final List<String> texts = new ArrayList<>();
        private int made = 0;

        Run(int kind, long seed) {
            this.kind = kind;
            this.seed = seed;
            dice = new Random(seed);
        }

        void go() {
            begin();
            while (made < CALLS && wrong < 20) {
                int n = dice.nextInt(100);
                if (n < chance(20, 20, 20, 60, 4, 45)) {
                    text();
                } else if (n < chance(40, 40, 40, 62, 90, 50)) {
                    change();
                } else {
                    ask();
                }
            }
        }

        private int chance(int... byKind) {
            return byKind[kind];
        }

        private void begin() {
            if (kind == 1) {
                mode(0, 1 + dice.nextInt(3));
            } else if (kind == 2) {
                mode(1, 1 + dice.nextInt(3));
            } else if (kind == 3) {
                mode(dice.nextInt(4) == 0 ? 1 : 0, dice.nextBoolean() ? 9 : 5 + dice.nextInt(5));
            }
        }

        private void text() {
            boolean isFresh = texts.isEmpty() || dice.nextInt(100) < chance(33, 33, 33, 80, 33, 33);
            String text = isFresh ? fresh() : edited(texts.get(dice.nextInt(texts.size())));
            texts.add(text);
            int had = m.tape.length();
            for (int from = 0; from < text.length(); from += 20) {
                int[] five = new int[5];
                for (int i = 0; i < 20; i++) {
                    int sign = from + i < text.length() ? text.charAt(from + i) : dice.nextInt(256);
                    five[i / 4] = five[i / 4] << 8 | sign;
                }
                due("feed", x.feed(five[0], five[1], five[2], five[3], five[4]), m.feed(five));
            }
            end(had + text.length());
            if (dice.nextInt(6) == 0) {
                count(dice.nextInt(2));
            }
            if (dice.nextInt(20) != 0) {
                due("add", x.add(), m.add());
            }
        }

        private String fresh() {
            int length = kind == 3 ? 700 + dice.nextInt(101) : kind == 5 ? dice.nextInt(21) : dice.nextInt(61);
            String signs = kind == 1 ? "abAB c" : kind == 2 ? "aAb. 1" : kind == 3
                ? "abcdefghijklmnopqrstuvwxyz0123456789  " : "abcdeABC 01.\u00e9z";
            StringBuilder text = new StringBuilder();
            for (int i = 0; i < length; i++) {
                text.append(dice.nextInt(30) == 0 ? (char) dice.nextInt(256) : signs.charAt(dice.nextInt(signs.length())));
            }
            return text.toString();
        }

        private String edited(String text) {
            StringBuilder out = new StringBuilder(text);
            for (int edits = dice.nextInt(4); edits > 0 && out.length() > 0; edits--) {
                int at = dice.nextInt(out.length());
                if (dice.nextBoolean()) {
                    out.setCharAt(at, (char) ('a' + dice.nextInt(6)));
                } else {
                    out.deleteCharAt(at);
                }
            }
            return out.toString();
        }

        private void change() {
            int n = dice.nextInt(kind == 4 && dice.nextInt(40) != 0 ? 9 : 26);
            if (n < 9) {
                int j = permutation();
                int a = shingleNumber();
                int b = shingleNumber();
                due("exchange " + j + " " + a + " " + b, x.exchange(j, a, b), m.exchange(j, a, b));
            } else if (n < 13) {
                int j = permutation();
                int a = odd(65521);
                int b = odd(65521);
                due("tell " + j + " " + a + " " + b, x.tell(j, a, b) ? 1 : 0, m.tell(j, a, b));
            } else if (n < 18) {
                int b = dice.nextInt(6) == 0 ? odd(65) : 1 + dice.nextInt(32);
                int r = dice.nextInt(6) == 0 ? odd(65) : 1 + dice.nextInt(3);
                due("bands " + b + " " + r, x.bands(b, r) ? 1 : 0, m.bands(b, r));
            } else if (n < 22) {
                int q = dice.nextBoolean() ? 1 + dice.nextInt(9) : odd(10001);
                int p = dice.nextInt(9) == 0 ? odd(10001) : dice.nextInt(Math.max(1, Math.min(q, 20000)) + 1);
                due("threshold " + p + " " + q, x.threshold(p, q) ? 1 : 0, m.threshold(p, q));
            } else if (n < 24) {
                int d = someDocument();
                due("remove " + d, x.remove(d) ? 1 : 0, m.remove(d));
            } else if (n == 24) {
                end(odd(m.tape.length() + 1));
            } else if (dice.nextInt(8) == 0) {
                mode(dice.nextInt(4) == 0 ? odd(2) : dice.nextInt(2), dice.nextInt(4) == 0 ? odd(10) : 1 + dice.nextInt(4));
            }
        }

        private void ask() {
            int d = someDocument();
            int e = someDocument();
            switch (dice.nextInt(10)) {
                case 0 -> document(d, odd(4));
                case 1 -> shingle(d, odd(30));
                case 2 -> {
                    int number = odd(m.shingles.size() + 1);
                    int k = odd(12);
                    due("letter " + number + " " + k, x.letter(number, k), m.letter(number, k));
                }
                case 3 -> signature(d, permutation());
                case 4 -> both(d, e, odd(5));
                case 5 -> {
                    int sort = odd(4);
                    due("pairs " + sort, x.pairs(sort), m.pairs(sort));
                }
                case 6 -> {
                    int sort = odd(4);
                    int i = dice.nextInt(3) == 0 ? odd(60) : dice.nextInt(5);
                    int what = odd(2);
                    due("pair " + sort + " " + i + " " + what, x.pair(sort, i, what), m.pair(sort, i, what));
                }
                case 7 -> nearest(d, odd(m.there.size() + 1));
                case 8 -> {
                    int j = permutation();
                    int a = shingleNumber();
                    due("image " + j + " " + a, x.image(j, a), m.image(j, a));
                }
                default -> count(odd(13));
            }
        }

        private void mode(int sort, int k) {
            due("mode " + sort + " " + k, x.mode(sort, k), m.mode(sort, k));
        }

        private void end(int n) {
            due("end " + n, x.end(n) ? 1 : 0, m.end(n));
        }

        private void count(int what) {
            due("count " + what, x.count(what), m.count(what));
        }

        private void document(int d, int what) {
            due("document " + d + " " + what, x.document(d, what), m.document(d, what));
        }

        private void shingle(int d, int i) {
            due("shingle " + d + " " + i, x.shingle(d, i), m.shingle(d, i));
        }

        private void signature(int d, int j) {
            due("signature " + d + " " + j, x.signature(d, j), m.signature(d, j));
        }

        private void both(int d, int e, int what) {
            due("both " + d + " " + e + " " + what, x.both(d, e, what), m.both(d, e, what));
        }

        private void nearest(int d, int i) {
            due("nearest " + d + " " + i, x.nearest(d, i), m.nearest(d, i));
        }

        /** Mostly from 0 up to below the bound; at times an edge, or far off. */
        private int odd(int bound) {
            return switch (dice.nextInt(24)) {
                case 0 -> -1;
                case 1 -> bound;
                case 2 -> bound - 1;
                case 3 -> dice.nextInt();
                default -> dice.nextInt(bound);
            };
        }

        private int permutation() {
            return dice.nextInt(3) == 0 ? odd(64) : dice.nextInt(4);
        }

        private int shingleNumber() {
            return dice.nextInt(4) == 0 ? odd(65521) : dice.nextInt(Math.max(1, Math.min(40, m.shingles.size())));
        }

        private int someDocument() {
            List<Integer> there = new ArrayList<>(m.there.keySet());
            return there.isEmpty() || dice.nextInt(12) == 0 ? odd(50) : there.get(dice.nextInt(there.size()));
        }

        private void due(String call, long got, long want) {
            made++;
            calls++;
            if (made <= CALLS && got != want) {
                wrong++;
                System.out.println("kind " + kind + ", seed " + seed + ", call " + made + ": " + call
                    + " answered " + got + ", due is " + want);
            }
        }
    }
}
