import java.util.ArrayList;
import java.util.NoSuchElementException;

/** A finder of near twins among texts, by shingles, signatures and bands. */
public final class TwinFinder {
    public static final int NONE = -1;

    private static final int TEXT_BYTES = 800;
    private static final int FEED_BYTES = 20;
    private static final int BLANK = 32;
    private static final int WORDS = 1;
    private static final int LONGEST_ROW = 9;
    private static final int SHINGLES_IN_ALL = 6000;
    private static final int SHINGLE_BYTES = 50000;
    private static final int SEATS = 16384;
    private static final int SET_WORDS = (SHINGLES_IN_ALL + 63) / 64;
    private static final int DOCUMENTS_AT_A_TIME = 48;
    private static final int DOCUMENTS_IN_ALL = 400;
    private static final int PAIRS_AT_MOST = DOCUMENTS_AT_A_TIME * (DOCUMENTS_AT_A_TIME - 1) / 2;
    private static final int PERMUTATIONS = 64;
    private static final int PRIME = 65521;
    private static final int EXCHANGES_AT_MOST = 300;
    private static final int GREATEST_Q = 10000;

    private final Tape tape;
    private final Store store;
    private final Permutations permutations;
    private final Shelf shelf;
    private final Measure measure;
    private final Kin kin;
    private final int[] along;
    private int sortAtHand;
    private int rowAtHand;

    public TwinFinder() {
        tape = new Tape();
        store = new Store();
        permutations = new Permutations();
        shelf = new Shelf();
        measure = new Measure();
        kin = new Kin();
        along = new int[TEXT_BYTES];
        sortAtHand = 0;
        rowAtHand = 4;
    }

    public int feed(int a, int b, int c, int d, int e) {
        if (tape.length + FEED_BYTES > TEXT_BYTES) {
            return NONE;
        }
        tape.putFour(a);
        tape.putFour(b);
        tape.putFour(c);
        tape.putFour(d);
        tape.putFour(e);
        return tape.length;
    }

    public boolean end(int n) {
        return tape.cutTo(n);
    }

    public int add() {
        tape.makePlain();
        // The tape is empty also when nothing comes: "(empty then)" stands before the document's NONE.
        tape.cutTo(0);
        if (shelf.isFull()) {
            return NONE;
        }
        tape.markPieces(sortAtHand == WORDS);
        int numbersBefore = store.given;
        int shingles = numberAlongText();
        if (shingles == NONE) {
            store.forgetFrom(numbersBefore);
            return NONE;
        }
        Document fresh = shelf.takeNext();
        fresh.fillWith(along, shingles, store.given);
        for (int j = 0; j < PERMUTATIONS; j++) {
            fresh.least[j] = permutations.leastOf(fresh, j);
        }
        shelf.shareWithAll(fresh);
        kin.known = false;
        return fresh.number;
    }

    public boolean remove(int d) {
        boolean went = shelf.putAway(d);
        if (went) {
            kin.known = false;
        }
        return went;
    }

    public int mode(int sort, int k) throws IllegalArgumentException {
        if (sort < 0 || sort > WORDS || k < 1 || k > LONGEST_ROW) {
            throw new IllegalArgumentException("there is no such mode");
        }
        sortAtHand = sort;
        rowAtHand = k;
        store.forgetFrom(0);
        kin.known = false;
        return shelf.putAllAway();
    }

    public boolean tell(int j, int a, int b) {
        if (!permutations.become(j, a, b)) {
            return false;
        }
        renewImages(j);
        return true;
    }

    public int exchange(int j, int x, int y) {
        if (!permutations.swap(j, x, y)) {
            return NONE;
        }
        renewImages(j);
        return permutations.kept;
    }

    public int image(int j, int x) {
        return permutations.imageOf(j, x);
    }

    public boolean bands(int b, int r) {
        boolean taken = measure.takeBands(b, r);
        if (taken) {
            kin.known = false;
        }
        return taken;
    }

    public boolean threshold(int p, int q) {
        boolean taken = measure.takeThreshold(p, q);
        if (taken) {
            kin.known = false;
        }
        return taken;
    }

    public int document(int d, int what) throws NoSuchElementException {
        int place = shelf.placeOf(d);
        if (place == NONE || what < 0 || what > 3) {
            throw new NoSuchElementException("no such document, or no such question");
        }
        if (what == 0) {
            return shelf.here.get(place).size;
        }
        kin.learn(shelf.here, measure);
        return switch (what) {
            case 1 -> kin.familyOf(place);
            case 2 -> kin.membersWith(place);
            default -> kin.twinsOf(place);
        };
    }

    public int shingle(int d, int i) throws NoSuchElementException {
        Document x = documentThere(d);
        return i >= 0 && i < x.size ? x.numbers[i] : NONE;
    }

    public int letter(int number, int k) {
        return store.byteOf(number, k);
    }

    public int signature(int d, int j) throws NoSuchElementException {
        Document x = documentThere(d);
        if (j < 0 || j >= PERMUTATIONS) {
            throw new NoSuchElementException("there is no such permutation");
        }
        return x.least[j];
    }

    public int both(int a, int b, int what) throws NoSuchElementException {
        Document x = documentThere(a);
        Document y = documentThere(b);
        if (what < 0 || what > 4) {
            throw new NoSuchElementException("there is no such question");
        }
        return switch (what) {
            case 0 -> measure.common(x, y);
            case 1 -> measure.all(x, y);
            case 2 -> measure.sameImages(x, y);
            case 3 -> measure.firstBand(x, y);
            default -> measure.areTwins(x, y) ? 1 : 0;
        };
    }

    public int pairs(int sort) {
        kin.learn(shelf.here, measure);
        return switch (sort) {
            case 0 -> kin.candidates.size;
            case 1 -> kin.twins.size;
            case 2 -> kin.families(2);
            case 3 -> kin.families(1);
            default -> NONE;
        };
    }

    public int pair(int sort, int i, int what) {
        kin.learn(shelf.here, measure);
        return switch (sort) {
            case 0 -> kin.candidates.side(i, what);
            case 1 -> kin.twins.side(i, what);
            case 2 -> what == 0 ? kin.familyAt(i, 2) : NONE;
            case 3 -> what == 0 ? kin.familyAt(i, 1) : NONE;
            default -> NONE;
        };
    }

    public int nearest(int d, int i) throws NoSuchElementException {
        ArrayList<Document> others = shelf.othersByNearness(documentThere(d), measure);
        return i >= 0 && i < others.size() ? others.get(i).number : NONE;
    }

    public int count(int what) {
        return switch (what) {
            case 0 -> tape.length;
            case 1 -> tape.makePlain();
            case 2 -> shelf.here.size();
            case 3 -> shelf.came;
            case 4 -> store.given;
            case 5 -> store.bytesUsed();
            case 6 -> permutations.kept;
            case 7 -> measure.bandCount;
            case 8 -> measure.rowCount;
            case 9 -> measure.p;
            case 10 -> measure.q;
            case 11 -> sortAtHand;
            case 12 -> rowAtHand;
            default -> NONE;
        };
    }

    private Document documentThere(int d) {
        int place = shelf.placeOf(d);
        if (place == NONE) {
            throw new NoSuchElementException("the document is not there");
        }
        return shelf.here.get(place);
    }

    /** Writes the numbers of the text's shingles into 'along' and tells how many; NONE if the store is too small. */
    private int numberAlongText() {
        int shingles = Math.max(0, tape.pieces - rowAtHand + 1);
        for (int i = 0; i < shingles; i++) {
            int number = store.numberOf(tape.plain, tape.start[i], tape.start[i + rowAtHand] - tape.gap);
            if (number == NONE) {
                return NONE;
            }
            along[i] = number;
        }
        return shingles;
    }

    private void renewImages(int j) {
        for (int place = 0; place < shelf.here.size(); place++) {
            Document x = shelf.here.get(place);
            x.least[j] = permutations.leastOf(x, j);
        }
        kin.known = false;
    }

    /** The bytes that have come, and beside them the plain text that was last made of them. */
    private static final class Tape {
        final byte[] bytes = new byte[TEXT_BYTES];
        final byte[] plain = new byte[TEXT_BYTES];
        // A piece is a byte or a word; behind the last one stands where a next one would begin.
        final int[] start = new int[TEXT_BYTES + 1];
        int length;
        int plainLength;
        int pieces;
        int gap;

        void putFour(int four) {
            for (int shift = 24; shift >= 0; shift -= 8) {
                if (length < TEXT_BYTES) {
                    bytes[length] = (byte) (four >>> shift);
                    length++;
                }
            }
        }

        boolean cutTo(int n) {
            if (n < 0 || n > length) {
                return false;
            }
            length = n;
            return true;
        }

        int makePlain() {
            plainLength = 0;
            boolean blankWaits = false;
            for (int i = 0; i < length; i++) {
                int sign = plainSign(bytes[i]);
                if (sign == BLANK) {
                    blankWaits = plainLength > 0;
                } else {
                    if (blankWaits) {
                        putPlain(BLANK);
                    }
                    blankWaits = false;
                    putPlain(sign);
                }
            }
            return plainLength;
        }

        private void putPlain(int sign) {
            if (plainLength < TEXT_BYTES) {
                plain[plainLength] = (byte) sign;
                plainLength++;
            }
        }

        private static int plainSign(int sign) {
            if (sign >= 'A' && sign <= 'Z') {
                return sign - 'A' + 'a';
            }
            boolean stays = (sign >= 'a' && sign <= 'z') || (sign >= '0' && sign <= '9');
            return stays ? sign : BLANK;
        }

        void markPieces(boolean words) {
            gap = words ? 1 : 0;
            pieces = 0;
            for (int i = 0; i < plainLength; i++) {
                if (!words || i == 0 || plain[i - 1] == BLANK) {
                    start[pieces] = i;
                    pieces++;
                }
            }
            start[pieces] = plainLength + gap;
        }
    }

    /** All shingles that have a number, found by their bytes. */
    private static final class Store {
        final byte[] letters = new byte[SHINGLE_BYTES];
        final int[] begin = new int[SHINGLES_IN_ALL + 1];
        final int[] seatOf = new int[SHINGLES_IN_ALL];
        // A seat holds a number and one more, so that 0 is an empty seat.
        final int[] seats = new int[SEATS];
        int given;

        int bytesUsed() {
            return begin[given];
        }

        int byteOf(int number, int k) {
            if (number < 0 || number >= given || k < 0 || k >= begin[number + 1] - begin[number]) {
                return NONE;
            }
            return letters[begin[number] + k];
        }

        /** The number of the shingle, a new one if it was never there; NONE if there is no room for it. */
        int numberOf(byte[] text, int from, int to) {
            int seat = firstSeat(text, from, to);
            for (int step = 0; step < SEATS; step++) {
                int number = seats[seat] - 1;
                if (number < 0) {
                    return enter(text, from, to, seat);
                }
                if (isThere(number, text, from, to)) {
                    return number;
                }
                seat = (seat + 1) & (SEATS - 1);
            }
            return NONE;
        }

        private static int firstSeat(byte[] text, int from, int to) {
            int hash = 0;
            for (int i = from; i < to; i++) {
                hash = hash * 31 + text[i];
            }
            return (hash ^ (hash >>> 14)) & (SEATS - 1);
        }

        private boolean isThere(int number, byte[] text, int from, int to) {
            int first = begin[number];
            if (begin[number + 1] - first != to - from) {
                return false;
            }
            for (int i = from; i < to; i++) {
                if (letters[first + i - from] != text[i]) {
                    return false;
                }
            }
            return true;
        }

        private int enter(byte[] text, int from, int to, int seat) {
            int first = begin[given];
            if (given >= SHINGLES_IN_ALL || first + to - from > SHINGLE_BYTES) {
                return NONE;
            }
            for (int i = from; i < to; i++) {
                letters[first + i - from] = text[i];
            }
            seats[seat] = given + 1;
            seatOf[given] = seat;
            given++;
            begin[given] = first + to - from;
            return given - 1;
        }

        /** Takes back the numbers from 'kept' on; the last that came goes first, so no search is ever cut short. */
        void forgetFrom(int kept) {
            for (int number = given - 1; number >= kept && number >= 0; number--) {
                seats[seatOf[number]] = 0;
                given = number;
            }
        }
    }

    /** Permutations as factor and summand, with the few images that exchanges have moved, rising by their keys. */
    private static final class Permutations {
        private static final int KEY_BITS = 16;
        // 512 + 256 + .. + 1 reaches over all the 600 places that can be filled.
        private static final int WIDEST_STRIDE = 512;

        final int[] factor = new int[PERMUTATIONS];
        final int[] summand = new int[PERMUTATIONS];
        final int[] exchanges = new int[PERMUTATIONS];
        final int[] movedKey = new int[2 * EXCHANGES_AT_MOST];
        final int[] movedImage = new int[2 * EXCHANGES_AT_MOST];
        int moved;
        int kept;

        Permutations() {
            for (int j = 0; j < PERMUTATIONS; j++) {
                factor[j] = 1;
            }
        }

        private static boolean isOne(int j) {
            return j >= 0 && j < PERMUTATIONS;
        }

        private static boolean isNumber(int x) {
            return x >= 0 && x < PRIME;
        }

        boolean become(int j, int a, int b) {
            if (!isOne(j) || !isNumber(a) || a == 0 || !isNumber(b)) {
                return false;
            }
            factor[j] = a;
            summand[j] = b;
            kept -= exchanges[j];
            exchanges[j] = 0;
            dropMoved(j);
            return true;
        }

        boolean swap(int j, int x, int y) {
            if (!isOne(j) || !isNumber(x) || !isNumber(y) || kept >= EXCHANGES_AT_MOST) {
                return false;
            }
            int imageOfX = imageOf(j, x);
            int imageOfY = imageOf(j, y);
            exchanges[j]++;
            kept++;
            move(keyOf(j, x), imageOfY);
            move(keyOf(j, y), imageOfX);
            return true;
        }

        int imageOf(int j, int x) {
            if (!isOne(j) || !isNumber(x)) {
                return NONE;
            }
            if (exchanges[j] > 0) {
                int key = keyOf(j, x);
                int place = placeFor(key);
                if (place < moved && movedKey[place] == key) {
                    return movedImage[place];
                }
            }
            return (int) (((long) factor[j] * x + summand[j]) % PRIME);
        }

        int leastOf(Document x, int j) {
            int least = PRIME;
            for (int i = 0; i < x.size; i++) {
                least = Math.min(least, imageOf(j, x.numbers[i]));
            }
            return least;
        }

        private static int keyOf(int j, int x) {
            return (j << KEY_BITS) | x;
        }

        /** How many moved keys are below this one. */
        private int placeFor(int key) {
            int below = 0;
            for (int stride = WIDEST_STRIDE; stride > 0; stride /= 2) {
                if (below + stride <= moved && movedKey[below + stride - 1] < key) {
                    below += stride;
                }
            }
            return below;
        }

        private void move(int key, int image) {
            int place = placeFor(key);
            if (place < moved && movedKey[place] == key) {
                movedImage[place] = image;
            } else if (moved < movedKey.length) {
                for (int i = moved; i > place; i--) {
                    movedKey[i] = movedKey[i - 1];
                    movedImage[i] = movedImage[i - 1];
                }
                movedKey[place] = key;
                movedImage[place] = image;
                moved++;
            }
        }

        private void dropMoved(int j) {
            int left = 0;
            for (int i = 0; i < moved; i++) {
                if ((movedKey[i] >> KEY_BITS) != j) {
                    movedKey[left] = movedKey[i];
                    movedImage[left] = movedImage[i];
                    left++;
                }
            }
            moved = left;
        }
    }

    /** One document: the set of its shingles as bits and as a rising row, its signature, what it shares. */
    private static final class Document {
        final int slot;
        final long[] set = new long[SET_WORDS];
        final int[] numbers = new int[TEXT_BYTES];
        final int[] least = new int[PERMUTATIONS];
        // By the slot of the other document: how many shingles both have.
        final int[] shared = new int[DOCUMENTS_AT_A_TIME];
        int number;
        int size;

        Document(int slot) {
            this.slot = slot;
        }

        void fillWith(int[] along, int shingles, int numbersInAll) {
            for (int w = 0; w < SET_WORDS; w++) {
                set[w] = 0;
            }
            for (int i = 0; i < shingles; i++) {
                set[along[i] >> 6] |= 1L << (along[i] & 63);
            }
            size = 0;
            for (int n = 0; n < numbersInAll; n++) {
                if (((set[n >> 6] >>> (n & 63)) & 1L) != 0 && size < TEXT_BYTES) {
                    numbers[size] = n;
                    size++;
                }
            }
        }

        int countShared(Document other) {
            int both = 0;
            for (int w = 0; w < SET_WORDS; w++) {
                both += Long.bitCount(set[w] & other.set[w]);
            }
            return both;
        }
    }

    /** The documents that are there, by their numbers, and those whose rows wait to be used again. */
    private static final class Shelf {
        final ArrayList<Document> here = new ArrayList<>();
        final ArrayList<Document> spare = new ArrayList<>();
        final ArrayList<Document> ranked = new ArrayList<>();
        int came;

        boolean isFull() {
            return here.size() >= DOCUMENTS_AT_A_TIME || came >= DOCUMENTS_IN_ALL;
        }

        int placeOf(int d) {
            for (int place = 0; place < here.size(); place++) {
                if (here.get(place).number == d) {
                    return place;
                }
            }
            return NONE;
        }

        /** The next document; its slot is free, since as many were made as have been there at once. */
        Document takeNext() {
            Document next = spare.isEmpty() ? new Document(here.size()) : spare.remove(spare.size() - 1);
            next.number = came;
            came++;
            here.add(next);
            return next;
        }

        void shareWithAll(Document fresh) {
            for (int place = 0; place < here.size(); place++) {
                Document other = here.get(place);
                int both = fresh.countShared(other);
                fresh.shared[other.slot] = both;
                other.shared[fresh.slot] = both;
            }
        }

        boolean putAway(int d) {
            int place = placeOf(d);
            if (place == NONE) {
                return false;
            }
            spare.add(here.remove(place));
            return true;
        }

        int putAllAway() {
            int went = here.size();
            for (int place = 0; place < went; place++) {
                spare.add(here.get(place));
            }
            here.clear();
            came = 0;
            return went;
        }

        ArrayList<Document> othersByNearness(Document x, Measure measure) {
            ranked.clear();
            for (int place = 0; place < here.size(); place++) {
                Document other = here.get(place);
                if (other != x) {
                    ranked.add(rankOf(other, x, measure), other);
                }
            }
            return ranked;
        }

        private int rankOf(Document other, Document x, Measure measure) {
            for (int rank = ranked.size(); rank > 0; rank--) {
                if (!measure.isNearer(x, other, ranked.get(rank - 1))) {
                    return rank;
                }
            }
            return 0;
        }
    }

    /** How two documents are compared, with the bands and the threshold at hand. */
    private static final class Measure {
        int bandCount = 16;
        int rowCount = 4;
        int p = 1;
        int q = 2;

        boolean takeBands(int b, int r) {
            if (b < 1 || r < 1 || b > PERMUTATIONS || r > PERMUTATIONS || b * r > PERMUTATIONS) {
                return false;
            }
            bandCount = b;
            rowCount = r;
            return true;
        }

        boolean takeThreshold(int newP, int newQ) {
            if (newP < 0 || newP > newQ || newQ < 1 || newQ > GREATEST_Q) {
                return false;
            }
            p = newP;
            q = newQ;
            return true;
        }

        int common(Document x, Document y) {
            return x.shared[y.slot];
        }

        int all(Document x, Document y) {
            return x.size + y.size - common(x, y);
        }

        int sameImages(Document x, Document y) {
            int same = 0;
            for (int j = 0; j < bandCount * rowCount; j++) {
                if (x.least[j] == y.least[j]) {
                    same++;
                }
            }
            return same;
        }

        int firstBand(Document x, Document y) {
            if (x.size == 0 || y.size == 0) {
                return NONE;
            }
            for (int band = 0; band < bandCount; band++) {
                if (agree(x, y, band * rowCount)) {
                    return band;
                }
            }
            return NONE;
        }

        private boolean agree(Document x, Document y, int firstRow) {
            for (int j = firstRow; j < firstRow + rowCount; j++) {
                if (x.least[j] != y.least[j]) {
                    return false;
                }
            }
            return true;
        }

        boolean areTwins(Document x, Document y) {
            return firstBand(x, y) != NONE && areNear(x, y);
        }

        boolean areNear(Document x, Document y) {
            return common(x, y) * q >= all(x, y) * p;
        }

        /** Whether COMMON / ALL of x with a is greater than of x with b; an ALL of 0 counts as 1, so 0 / 0 is 0. */
        boolean isNearer(Document x, Document a, Document b) {
            return common(x, a) * Math.max(1, all(x, b)) > common(x, b) * Math.max(1, all(x, a));
        }
    }

    /** Pairs of document numbers in the order in which they were put. */
    private static final class PairRow {
        final int[] first = new int[PAIRS_AT_MOST];
        final int[] second = new int[PAIRS_AT_MOST];
        int size;

        void put(int a, int b) {
            if (size < PAIRS_AT_MOST) {
                first[size] = a;
                second[size] = b;
                size++;
            }
        }

        int side(int i, int what) {
            if (i < 0 || i >= size || what < 0 || what > 1) {
                return NONE;
            }
            return what == 0 ? first[i] : second[i];
        }
    }

    /** All pairs and families, learnt at the first question after a change; a place is one on the shelf. */
    private static final class Kin {
        final PairRow candidates = new PairRow();
        final PairRow twins = new PairRow();
        final int[] number = new int[DOCUMENTS_AT_A_TIME];
        final int[] twinCount = new int[DOCUMENTS_AT_A_TIME];
        // The least place of its family, and how many documents the family with this least place has.
        final int[] leader = new int[DOCUMENTS_AT_A_TIME];
        final int[] members = new int[DOCUMENTS_AT_A_TIME];
        int places;
        boolean known;

        void learn(ArrayList<Document> here, Measure measure) {
            if (known) {
                return;
            }
            begin(here);
            for (int i = 0; i < places; i++) {
                for (int j = i + 1; j < places; j++) {
                    compare(i, here.get(i), j, here.get(j), measure);
                }
            }
            for (int place = 0; place < places; place++) {
                members[leader[place]]++;
            }
            known = true;
        }

        private void begin(ArrayList<Document> here) {
            places = Math.min(here.size(), DOCUMENTS_AT_A_TIME);
            candidates.size = 0;
            twins.size = 0;
            for (int place = 0; place < places; place++) {
                number[place] = here.get(place).number;
                twinCount[place] = 0;
                leader[place] = place;
                members[place] = 0;
            }
        }

        private void compare(int i, Document x, int j, Document y, Measure measure) {
            if (measure.firstBand(x, y) == NONE) {
                return;
            }
            candidates.put(x.number, y.number);
            if (measure.areNear(x, y)) {
                twins.put(x.number, y.number);
                twinCount[i]++;
                twinCount[j]++;
                join(leader[i], leader[j]);
            }
        }

        private void join(int one, int other) {
            int least = Math.min(one, other);
            int gone = Math.max(one, other);
            for (int place = 0; place < places; place++) {
                if (leader[place] == gone) {
                    leader[place] = least;
                }
            }
        }

        int familyOf(int place) {
            return place >= 0 && place < places ? number[leader[place]] : NONE;
        }

        int membersWith(int place) {
            return place >= 0 && place < places ? members[leader[place]] : NONE;
        }

        int twinsOf(int place) {
            return place >= 0 && place < places ? twinCount[place] : NONE;
        }

        /** How many families have at least so many documents; only a least place has members counted. */
        int families(int atLeast) {
            int found = 0;
            for (int place = 0; place < places; place++) {
                if (members[place] >= atLeast) {
                    found++;
                }
            }
            return found;
        }

        int familyAt(int i, int atLeast) {
            int found = 0;
            for (int place = 0; place < places; place++) {
                if (members[place] >= atLeast) {
                    if (found == i) {
                        return number[place];
                    }
                    found++;
                }
            }
            return NONE;
        }
    }
}
