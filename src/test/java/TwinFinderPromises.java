import java.util.NoSuchElementException;

/** For each promise of the document its ordinary inputs, its edges and wrong inputs. */
public final class TwinFinderPromises {
    private static final int NONE = TwinFinder.NONE;
    private static final int THROWS = -777;
    private static int wrong = 0;
    private static int checks = 0;

    public static void main(String[] args) {
        newObject();
        feed();
        feedOrder();
        end();
        addNumbersTexts();
        addMakesPlain();
        addWords();
        addManyWords();
        addStopsAt48();
        addStopsAt6000Shingles();
        addStopsAt50000Bytes();
        remove();
        mode();
        modeRefused();
        tell();
        exchange();
        exchangeStopsAt300();
        image();
        bands();
        threshold();
        thresholdIsExact();
        document();
        families();
        shingle();
        letter();
        signature();
        both();
        bothByBands();
        pairs();
        pair();
        allPairs();
        nearest();
        count();
        System.out.println(checks + " checks, " + wrong + " wrong");
        if (wrong != 0) {
            System.exit(1);
        }
    }

    // ---- promise 1

    private static void newObject() {
        TwinFinder x = new TwinFinder();
        due("NONE", TwinFinder.NONE, -1);
        counts("new", x, 0, 0, 0, 0, 0, 0, 0, 16, 4, 1, 2, 0, 4);
        for (int sort = 0; sort < 4; sort++) {
            due("new: pairs " + sort, x.pairs(sort), 0);
            due("new: pair " + sort, x.pair(sort, 0, 0), NONE);
        }
        due("new: document", documentOf(x, 0, 0), THROWS);
        due("new: image 0", x.image(0, 0), 0);
        due("new: image 63", x.image(63, 65520), 65520);
    }

    // ---- promise 2

    private static void feed() {
        TwinFinder x = new TwinFinder();
        for (int i = 1; i <= 40; i++) {
            due("feed " + i, x.feed(i, -1, Integer.MIN_VALUE, Integer.MAX_VALUE, 0), 20 * i);
        }
        due("feed over 800", x.feed(1, 2, 3, 4, 5), NONE);
        due("feed over 800: none come", x.count(0), 800);
        due("end 781", x.end(781), true);
        due("feed from 781", x.feed(1, 2, 3, 4, 5), NONE);
        due("feed from 781: none come", x.count(0), 781);
        due("end 780", x.end(780), true);
        due("feed from 780", x.feed(1, 2, 3, 4, 5), 800);
    }

    private static void feedOrder() {
        TwinFinder x = new TwinFinder();
        x.mode(0, 1);
        x.feed(0x61626364, 0x65666768, 0x696A6B6C, 0x6D6E6F70, 0x71727374);
        due("feed order: add", x.add(), 0);
        for (int i = 0; i < 20; i++) {
            due("feed order: letter " + i, x.letter(i, 0), 'a' + i);
        }
        x.feed(0xE1FF80C1, 0xFF000000, 0x00000000, 0x000000FA, 0x80808081);
        due("high bytes are no letters", x.count(1), 0);
        x.feed(0x31000000, 0, 0, 0, 0x00000032);
        due("from the first to the last byte", x.count(1), 3);
    }

    // ---- promise 3

    private static void end() {
        TwinFinder x = new TwinFinder();
        due("end 0 of none", x.end(0), true);
        due("end 1 of none", x.end(1), false);
        x.feed(0x61626364, 0x65666768, 0x696A6B6C, 0x6D6E6F70, 0x71727374);
        due("end below 0", x.end(-1), false);
        due("end far below 0", x.end(Integer.MIN_VALUE), false);
        due("end 21 of 20", x.end(21), false);
        due("end far behind", x.end(Integer.MAX_VALUE), false);
        due("end refused: all stay", x.count(0), 20);
        due("end 20 of 20", x.end(20), true);
        due("end 5", x.end(5), true);
        due("end 6 of 5", x.end(6), false);
        due("end 5: count", x.count(0), 5);
        x.add();
        due("end keeps the first", shingleOf(x, 0, 1), 1);
        due("end drops the rest", shingleOf(x, 0, 2), NONE);
        due("end keeps the first byte", x.letter(0, 0), 'a');
    }

    // ---- promise 4

    private static void addNumbersTexts() {
        TwinFinder x = new TwinFinder();
        due("first number", addText(x, "abcdef"), 0);
        due("tape is empty", x.count(0), 0);
        due("empty text", x.add(), 1);
        due("too short a text", addText(x, "abc"), 2);
        due("same text", addText(x, "abcdef"), 3);
        row("shingles 0", x, 0, 0, 1, 2);
        row("shingles 1", x, 1);
        row("shingles 2", x, 2);
        row("shingles 3", x, 3, 0, 1, 2);
        due("one of a later text", addText(x, "zzzzzabcdzzzz"), 4);
        row("rising, each once", x, 4, 0, 3, 4, 5, 6, 7, 8, 9);
        spells("next number along the text", x, 3, "zzzz");
        spells("next but one", x, 4, "zzza");
        spells("last new one", x, 9, "dzzz");
        due("no more numbers", x.count(4), 10);
        due("bytes of these", x.count(5), 40);
    }

    private static void addMakesPlain() {
        TwinFinder x = new TwinFinder();
        x.mode(0, 9);
        addText(x, "  .,AZaz\t\n--09\0\u00e9!");
        due("plain has one shingle in 7 bytes: none", documentOf(x, 0, 0), 0);
        x.mode(0, 7);
        addText(x, "  .,AZaz\t\n--09\0\u00e9!");
        row("plain has 7 bytes", x, 0, 0);
        spells("plain", x, 0, "azaz 09");
        addText(x, "@AZ[`az{/09:");
        spells("neighbours of letters and digits are none", x, 1, "az az 0");
        spells("neighbours of letters and digits are none", x, 2, "z az 09");
        due("nothing but blanks", addText(x, " \u0080\u00ff -- "), 2);
        due("nothing but blanks: no shingles", documentOf(x, 2, 0), 0);
    }

    private static void addWords() {
        TwinFinder x = new TwinFinder();
        x.mode(1, 2);
        addText(x, "  One, two--THREE one two ");
        row("pairs of words", x, 0, 0, 1, 2);
        spells("words 0", x, 0, "one two");
        spells("words 1", x, 1, "two three");
        spells("words 2", x, 2, "three one");
        addText(x, "one");
        row("fewer words than k", x, 1);
        addText(x, "on etwo");
        row("blanks count", x, 2, 3);
        due("bytes of words", x.count(5), 7 + 9 + 9 + 7);
        x.mode(1, 1);
        addText(x, "b a b");
        row("single words", x, 0, 0, 1);
        spells("single word 0", x, 0, "b");
        spells("single word 1", x, 1, "a");
        x.mode(1, 9);
        addText(x, "1 2 3 4 5 6 7 8 9");
        row("nine words", x, 0, 0);
        spells("nine words", x, 0, "1 2 3 4 5 6 7 8 9");
        x.mode(1, 1);
        addText(x, "a".repeat(800));
        row("one long word", x, 0, 0);
        due("its last byte", x.letter(0, 799), 'a');
        due("behind its last byte", x.letter(0, 800), NONE);
        addText(x, "b ".repeat(400));
        row("400 words", x, 1, 1);
    }

    private static void addManyWords() {
        TwinFinder x = new TwinFinder();
        x.mode(1, 1);
        int word = 0;
        int bytes = 0;
        for (int d = 0; d < 6; d++) {
            StringBuilder text = new StringBuilder();
            int first = word;
            for (; text.length() < 780; word++) {
                String next = mixedWord(word);
                bytes += next.length();
                text.append(next).append(' ');
            }
            due("many words " + d, addText(x, text.toString()), d);
            due("all are unlike", x.count(4), word);
            due("bytes of all", x.count(5), bytes);
            due("how many", documentOf(x, d, 0), word - first);
        }
        for (int n = 0; n < word; n += 41) {
            spells("word " + n, x, n, mixedWord(n));
        }
    }

    /** Words of several lengths, no two alike: 40 m is no multiple of 3 where m is none. */
    private static String mixedWord(int n) {
        return n < 36 ? Integer.toString(n, 36) : Long.toString(n * 7919L * (n % 3 == 0 ? 1 : 40), 36);
    }

    private static void addStopsAt48() {
        TwinFinder x = new TwinFinder();
        for (int i = 0; i < 48; i++) {
            due("add " + i, addText(x, "text " + i), i);
        }
        int shingles = x.count(4);
        due("a 49th", addText(x, "never seen"), NONE);
        due("a 49th: tape is empty", x.count(0), 0);
        due("a 49th: no numbers", x.count(4), shingles);
        due("a 49th: none came", x.count(3), 48);
        due("a 49th, empty", x.add(), NONE);
        due("one goes", x.remove(20), true);
        due("now one comes", addText(x, "never seen"), 48);
        due("48 again", addText(x, "x"), NONE);
        due("48 again: count", x.count(2), 48);
        due("48 again: came", x.count(3), 49);
    }

    private static void addStopsAt6000Shingles() {
        TwinFinder x = new TwinFinder();
        Unlike text = new Unlike();
        for (int i = 0; i < 7; i++) {
            due("800 bytes", addText(x, text.next(800)), i);
        }
        due("7 texts", x.count(4), 7 * 797);
        String tooLong = text.next(425);
        due("over 6000", addText(x, tooLong), NONE);
        due("over 6000: no numbers", x.count(4), 7 * 797);
        due("over 6000: no bytes", x.count(5), 7 * 797 * 4);
        due("over 6000: tape is empty", x.count(0), 0);
        due("over 6000: none came", x.count(3), 7);
        due("over 6000: not known", x.letter(7 * 797, 0), NONE);
        String last = tooLong.substring(1);
        due("up to 6000", addText(x, last), 7);
        due("numbers that were taken back are given anew", shingleOf(x, 7, 0), 7 * 797);
        due("along the text", x.letter(7 * 797, 0), last.charAt(0));
        due("6000", x.count(4), 6000);
        due("the last one", x.letter(5999, 3), last.charAt(423));
        due("one more", addText(x, text.next(4)), NONE);
        due("old ones may come", addText(x, last), 8);
        due("they are the same", bothOf(x, 7, 8, 0), 421);
        due("remove frees no number", x.remove(7) && x.remove(8), true);
        due("one more", addText(x, text.next(4)), NONE);
        due("none is few enough", addText(x, "abc"), 9);
        due("mode frees all", x.mode(0, 4), 8);
        due("one more", addText(x, text.next(4)), 0);
    }

    private static void addStopsAt50000Bytes() {
        TwinFinder x = new TwinFinder();
        x.mode(1, 9);
        for (int i = 0; i < 7; i++) {
            due("200 words", addText(x, threeLetterWords(200 * i, 200)), i);
        }
        due("88 words", addText(x, threeLetterWords(1400, 88)), 7);
        due("bytes", x.count(5), 7 * 192 * 35 + 80 * 35);
        String eight = " 1 2 3 4 5 6 7 8";
        due("over 50000", addText(x, "a".repeat(145) + eight), NONE);
        due("over 50000: no bytes", x.count(5), 49840);
        due("over 50000, the second new one", addText(x, "a".repeat(140) + eight + " b"), NONE);
        due("over 50000: no numbers", x.count(4), 7 * 192 + 80);
        due("over 50000: no letters", x.letter(7 * 192 + 80, 0), NONE);
        due("up to 50000", addText(x, "b".repeat(144) + eight), 8);
        due("bytes", x.count(5), 50000);
        due("its number is the next", shingleOf(x, 8, 0), 7 * 192 + 80);
        due("its first byte", x.letter(7 * 192 + 80, 0), 'b');
        due("its last byte", x.letter(7 * 192 + 80, 159), '8');
        due("one more", addText(x, "a" + eight), NONE);
    }

    // ---- promise 5

    private static void remove() {
        TwinFinder x = new TwinFinder();
        due("remove of none", x.remove(0), false);
        addText(x, "abcdef");
        addText(x, "bcdefg");
        due("remove below 0", x.remove(-1), false);
        due("remove behind", x.remove(2), false);
        due("remove far off", x.remove(Integer.MAX_VALUE), false);
        due("remove 0", x.remove(0), true);
        due("remove 0 again", x.remove(0), false);
        due("it is not there", documentOf(x, 0, 0), THROWS);
        due("the other is", documentOf(x, 1, 0), 3);
        due("documents there", x.count(2), 1);
        due("documents that came", x.count(3), 2);
        due("shingles stay", x.count(4), 4);
        spells("shingle stays", x, 0, "abcd");
        due("its number is not given again", addText(x, "xabcd"), 2);
        row("a shingle has its number for good", x, 2, 0, 4);
        due("common with the other", bothOf(x, 1, 2, 0), 0);
        due("pairs", x.pairs(0), 0);
        due("families", x.pairs(3), 2);
        due("family number", x.pair(3, 0, 0), 1);
    }

    // ---- promise 6

    private static void mode() {
        TwinFinder x = new TwinFinder();
        due("mode, none there", x.mode(1, 3), 0);
        counts("mode", x, 0, 0, 0, 0, 0, 0, 0, 16, 4, 1, 2, 1, 3);
        addText(x, "one two three");
        addText(x, "one two three four");
        x.remove(0);
        x.tell(5, 7, 8);
        x.exchange(3, 0, 9);
        x.bands(2, 3);
        x.threshold(3, 4);
        type(x, "Tape .");
        due("a family", x.pairs(3), 1);
        due("the same mode is another one", x.mode(1, 3), 1);
        counts("mode", x, 6, 4, 0, 0, 0, 0, 1, 2, 3, 3, 4, 1, 3);
        due("no document", documentOf(x, 1, 0), THROWS);
        due("no shingle", x.letter(0, 0), NONE);
        due("no family", x.pairs(3), 0);
        due("told stays", x.image(5, 1), 15);
        due("exchange stays", x.image(3, 0), 9);
        due("lowest", x.mode(0, 1), 0);
        due("tape comes by the new mode", x.add(), 0);
        row("numbers begin anew", x, 0, 0, 1, 2, 3);
        spells("first", x, 0, "t");
        addText(x, "eat");
        addText(x, "ate");
        due("the same mode again", x.mode(0, 1), 3);
        addText(x, "tape");
        addText(x, "tea");
        addText(x, "peas");
        addText(x, "x");
        row("the same text again", x, 0, 0, 1, 2, 3);
        row("a text of old shingles", x, 1, 0, 1, 3);
        due("numbers", x.count(4), 6);
        due("with itself", bothOf(x, 3, 3, 0), 1);
        due("with one before", bothOf(x, 2, 0, 0), 3);
        due("with another", bothOf(x, 3, 2, 0), 0);
        due("highest", x.mode(1, 9), 4);
        due("highest bytes", x.mode(0, 9), 0);
        due("lowest words", x.mode(1, 1), 0);
    }

    private static void modeRefused() {
        TwinFinder x = new TwinFinder();
        addText(x, "abcdef");
        type(x, "tape");
        int[][] none = {{-1, 4}, {2, 4}, {0, 0}, {1, 0}, {0, 10}, {1, 10}, {0, -1},
            {Integer.MIN_VALUE, 1}, {0, Integer.MAX_VALUE}};
        for (int[] m : none) {
            due("mode " + m[0] + " " + m[1], modeOf(x, m[0], m[1]), THROWS);
            counts("mode refused", x, 4, 4, 1, 1, 3, 12, 0, 16, 4, 1, 2, 0, 4);
        }
        row("mode refused: shingles stay", x, 0, 0, 1, 2);
    }

    // ---- promise 7

    private static void tell() {
        TwinFinder x = new TwinFinder();
        due("tell", x.tell(0, 2, 3), true);
        due("a x + b", x.image(0, 10), 23);
        due("another is as it was", x.image(1, 10), 10);
        due("greatest", x.tell(63, 65520, 65520), true);
        due("greatest of 0", x.image(63, 0), 65520);
        due("greatest of 1", x.image(63, 1), 65519);
        due("greatest of 65520", x.image(63, 65520), 0);
        due("least", x.tell(1, 1, 0), true);
        due("least of 65520", x.image(1, 65520), 65520);
        int[][] none = {{-1, 1, 1}, {64, 1, 1}, {0, 0, 1}, {0, -1, 1}, {0, 65521, 1}, {0, 1, -1}, {0, 1, 65521},
            {Integer.MIN_VALUE, 1, 1}, {0, Integer.MAX_VALUE, 1}, {0, 1, Integer.MIN_VALUE}};
        for (int[] t : none) {
            due("tell " + t[0] + " " + t[1] + " " + t[2], x.tell(t[0], t[1], t[2]), false);
        }
        due("refused: it stays", x.image(0, 10), 23);
        x.exchange(2, 4, 5);
        x.exchange(3, 4, 5);
        due("refused: exchanges stay", x.tell(2, 0, 0), false);
        due("refused: exchanges stay", x.count(6), 2);
        due("tell again", x.tell(2, 1, 1), true);
        due("its own exchanges are gone", x.image(2, 4), 5);
        due("its own exchanges are gone", x.count(6), 1);
        due("not those of others", x.image(3, 4), 5);
        due("tell once more", x.tell(2, 1, 1), true);
        due("none are gone twice", x.count(6), 1);
        x.exchange(2, 4, 9);
        due("gone ones do not come back: 4", x.image(2, 4), 10);
        due("gone ones do not come back: 5", x.image(2, 5), 6);
        due("gone ones do not come back: 9", x.image(2, 9), 5);
        addText(x, "abcdefgh");
        x.tell(7, 65520, 0);
        due("signatures follow", signatureOf(x, 0, 7), 0);
        x.tell(7, 65520, 2);
        due("signatures follow", signatureOf(x, 0, 7), 0);
        x.tell(7, 65520, 1);
        due("signatures follow", signatureOf(x, 0, 7), 0);
        x.tell(7, 1, 9);
        due("signatures follow", signatureOf(x, 0, 7), 9);
    }

    // ---- promise 8

    private static void exchange() {
        TwinFinder x = new TwinFinder();
        due("exchange", x.exchange(0, 1, 65520), 1);
        due("of x", x.image(0, 1), 65520);
        due("of y", x.image(0, 65520), 1);
        due("of others", x.image(0, 2), 2);
        due("of others", x.image(1, 1), 1);
        due("again", x.exchange(0, 1, 2), 2);
        due("one after the other: 1", x.image(0, 1), 2);
        due("one after the other: 2", x.image(0, 2), 65520);
        due("one after the other: 65520", x.image(0, 65520), 1);
        due("x and y may be one", x.exchange(0, 1, 1), 3);
        due("nothing moves", x.image(0, 1), 2);
        due("back", x.exchange(0, 1, 2), 4);
        due("back", x.image(0, 1), 65520);
        due("in the last", x.exchange(63, 0, 7), 5);
        due("in the last", x.image(63, 0), 7);
        int[][] none = {{-1, 1, 2}, {64, 1, 2}, {0, -1, 2}, {0, 65521, 2}, {0, 1, -1}, {0, 1, 65521},
            {Integer.MAX_VALUE, 1, 2}, {0, Integer.MIN_VALUE, 2}, {0, 1, Integer.MAX_VALUE}};
        for (int[] e : none) {
            due("exchange " + e[0] + " " + e[1] + " " + e[2], x.exchange(e[0], e[1], e[2]), NONE);
        }
        due("refused: kept", x.count(6), 5);
        x.tell(5, 3, 1);
        x.exchange(5, 10, 20);
        due("of a told one", x.image(5, 10), 61);
        due("of a told one", x.image(5, 20), 31);
        addText(x, "abcdefg");
        x.exchange(9, 0, 500);
        due("signatures follow", signatureOf(x, 0, 9), 1);
        x.exchange(9, 3, 500);
        due("signatures follow", signatureOf(x, 0, 9), 0);
    }

    private static void exchangeStopsAt300() {
        TwinFinder x = new TwinFinder();
        for (int i = 0; i < 300; i++) {
            due("exchange " + i, x.exchange(i % 3, i, 65520 - i), i + 1);
        }
        due("a 301st", x.exchange(0, 1, 2), NONE);
        due("a 301st of another", x.exchange(50, 1, 1), NONE);
        due("nothing happens", x.image(0, 1), 1);
        due("300 are kept", x.count(6), 300);
        due("one of them", x.image(2, 299), 65520 - 299);
        due("one of them", x.image(2, 65520 - 299), 299);
        x.tell(1, 1, 0);
        due("a hundred are gone", x.count(6), 200);
        due("of this", x.image(1, 298), 298);
        for (int i = 0; i < 300; i += 2) {
            due("those of others stay " + i, x.image(i % 3, i), i % 3 == 1 ? i : 65520 - i);
        }
        due("there is room again", x.exchange(1, 1, 2), 201);
        due("it is kept", x.image(1, 1), 2);
        due("others stay", x.image(0, 0), 65520);
        due("others stay", x.image(2, 299), 65520 - 299);
    }

    // ---- promise 9

    private static void image() {
        TwinFinder x = new TwinFinder();
        due("image below 0", x.image(-1, 0), NONE);
        due("image 64", x.image(64, 0), NONE);
        due("x below 0", x.image(0, -1), NONE);
        due("x 65521", x.image(0, 65521), NONE);
        due("x far off", x.image(0, Integer.MIN_VALUE), NONE);
        due("j far off", x.image(Integer.MAX_VALUE, 0), NONE);
        due("x 0", x.image(0, 0), 0);
        due("x 65520", x.image(63, 65520), 65520);
        x.tell(4, 65519, 17);
        due("a large product", x.image(4, 65519), (int) ((65519L * 65519L + 17) % 65521));
        x.exchange(4, 0, 65520);
        due("exchanged", x.image(4, 65520), 17);
        due("none such, with exchanges", x.image(4, 65521), NONE);
    }

    // ---- promise 10

    private static void bands() {
        TwinFinder x = new TwinFinder();
        int[][] some = {{1, 1}, {64, 1}, {1, 64}, {8, 8}, {7, 9}, {21, 3}};
        for (int[] b : some) {
            due("bands " + b[0] + " " + b[1], x.bands(b[0], b[1]), true);
            due("b", x.count(7), b[0]);
            due("r", x.count(8), b[1]);
        }
        int[][] none = {{0, 1}, {1, 0}, {-1, -1}, {-4, 4}, {65, 1}, {1, 65}, {5, 13}, {65536, 65536},
            {Integer.MAX_VALUE, 2}, {2, Integer.MAX_VALUE}, {Integer.MIN_VALUE, Integer.MIN_VALUE}, {1 << 30, 4}};
        for (int[] b : none) {
            due("bands " + b[0] + " " + b[1], x.bands(b[0], b[1]), false);
            due("b stays", x.count(7), 21);
            due("r stays", x.count(8), 3);
        }
    }

    // ---- promise 11

    private static void threshold() {
        TwinFinder x = new TwinFinder();
        int[][] some = {{0, 1}, {1, 1}, {0, 10000}, {10000, 10000}, {9999, 10000}, {2, 3}};
        for (int[] t : some) {
            due("threshold " + t[0] + " " + t[1], x.threshold(t[0], t[1]), true);
            due("p", x.count(9), t[0]);
            due("q", x.count(10), t[1]);
        }
        int[][] none = {{0, 0}, {-1, 1}, {2, 1}, {1, 10001}, {10001, 10001}, {-1, -1}, {0, -1},
            {Integer.MIN_VALUE, 5}, {Integer.MAX_VALUE, Integer.MAX_VALUE}};
        for (int[] t : none) {
            due("threshold " + t[0] + " " + t[1], x.threshold(t[0], t[1]), false);
            due("p stays", x.count(9), 2);
            due("q stays", x.count(10), 3);
        }
    }

    private static void thresholdIsExact() {
        TwinFinder x = new TwinFinder();
        x.mode(0, 1);
        addText(x, "abc");
        addText(x, "abcdefg");
        due("3 of 7", bothOf(x, 0, 1, 1), 7);
        due("below a half", bothOf(x, 0, 1, 4), 0);
        due("no twins", x.pairs(1), 0);
        x.threshold(3, 7);
        due("at the threshold", bothOf(x, 0, 1, 4), 1);
        due("twins", x.pairs(1), 1);
        x.threshold(4286, 10000);
        due("just above", bothOf(x, 0, 1, 4), 0);
        due("no twins", x.pairs(1), 0);
        x.threshold(4285, 10000);
        due("just below", bothOf(x, 0, 1, 4), 1);
        x.threshold(1, 1);
        addText(x, "cba");
        due("all the same", bothOf(x, 0, 2, 4), 1);
        due("one pair", x.pairs(1), 1);
        x.threshold(0, 1);
        addText(x, "xyz");
        due("no candidates are no twins at 0", bothOf(x, 0, 3, 4), 0);
    }

    // ---- promise 12

    private static void document() {
        TwinFinder x = new TwinFinder();
        x.mode(0, 1);
        addText(x, "q");
        addText(x, "abcd");
        addText(x, "");
        addText(x, "abce");
        addText(x, "abcdd");
        int[][] want = {{1, 0, 1, 0}, {4, 1, 3, 2}, {0, 2, 1, 0}, {4, 1, 3, 2}, {4, 1, 3, 2}};
        for (int d = 0; d < 5; d++) {
            for (int what = 0; what < 4; what++) {
                due("document " + d + " " + what, documentOf(x, d, what), want[d][what]);
            }
            due("another what", documentOf(x, d, -1), THROWS);
            due("another what", documentOf(x, d, 4), THROWS);
        }
        for (int what = -1; what < 5; what++) {
            due("not there", documentOf(x, 5, what), THROWS);
            due("below 0", documentOf(x, -1, what), THROWS);
        }
        x.remove(1);
        due("gone", documentOf(x, 1, 0), THROWS);
        due("another least number", documentOf(x, 4, 1), 3);
        due("one less", documentOf(x, 4, 2), 2);
        due("one twin less", documentOf(x, 4, 3), 1);
    }

    private static void families() {
        TwinFinder x = new TwinFinder();
        x.mode(0, 1);
        // All meet in 'a', the least image; near are only 0 - 2 - 4 - 1, each step 3 of 5, two steps 2 of 6.
        addText(x, "aefg");
        addText(x, "abcd");
        addText(x, "abef");
        addText(x, "a");
        addText(x, "abce");
        int[] family = {0, 0, 0, 3, 0};
        int[] twins = {1, 1, 2, 0, 2};
        for (int d = 0; d < 5; d++) {
            due("family of " + d, documentOf(x, d, 1), family[d]);
            due("twins of " + d, documentOf(x, d, 3), twins[d]);
        }
        due("by twins of twins", documentOf(x, 1, 2), 4);
        due("not twins themselves", bothOf(x, 0, 1, 4), 0);
        due("candidates", x.pairs(0), 10);
        x.remove(4);
        due("the chain is cut", documentOf(x, 1, 1), 1);
        due("the rest of it", documentOf(x, 2, 1), 0);
        x.threshold(0, 1);
        due("all are one", documentOf(x, 3, 2), 4);
        x.bands(1, 1);
        x.exchange(0, 0, 2);
        due("those with f and those without", x.pairs(0), 2);
        due("image of f is the least", signatureOf(x, 2, 0), 0);
        due("their family", documentOf(x, 2, 1), 0);
        due("the others' family", documentOf(x, 3, 1), 1);
    }

    // ---- promise 13

    private static void shingle() {
        TwinFinder x = new TwinFinder();
        x.mode(0, 1);
        addText(x, "abcd");
        addText(x, "dxbxd");
        row("rising", x, 1, 1, 3, 4);
        due("below 0", shingleOf(x, 1, -1), NONE);
        due("far behind", shingleOf(x, 1, Integer.MAX_VALUE), NONE);
        due("far below", shingleOf(x, 1, Integer.MIN_VALUE), NONE);
        due("not there", shingleOf(x, 2, 0), THROWS);
        due("below 0", shingleOf(x, -1, 0), THROWS);
        x.remove(0);
        due("gone", shingleOf(x, 0, 0), THROWS);
        due("gone, none such", shingleOf(x, 0, -1), THROWS);
        addText(x, "a");
        row("rows are used again", x, 2, 0);
    }

    // ---- promise 14

    private static void letter() {
        TwinFinder x = new TwinFinder();
        due("none yet", x.letter(0, 0), NONE);
        addText(x, "Ab 9z");
        spells("first", x, 0, "ab 9");
        spells("second", x, 1, "b 9z");
        due("k below 0", x.letter(1, -1), NONE);
        due("k behind", x.letter(0, 4), NONE);
        due("k far off", x.letter(0, Integer.MAX_VALUE), NONE);
        due("k far below", x.letter(1, Integer.MIN_VALUE), NONE);
        due("number below 0", x.letter(-1, 0), NONE);
        due("number behind", x.letter(2, 0), NONE);
        due("number far off", x.letter(Integer.MAX_VALUE, 0), NONE);
        due("number far below", x.letter(Integer.MIN_VALUE, 0), NONE);
        x.remove(0);
        spells("for good", x, 1, "b 9z");
    }

    // ---- promise 15

    private static void signature() {
        TwinFinder x = new TwinFinder();
        x.mode(0, 1);
        addText(x, "abc");
        addText(x, "bc");
        addText(x, "");
        x.tell(1, 65520, 65520);
        for (int j = 0; j < 64; j++) {
            due("least image " + j, signatureOf(x, 0, j), j == 1 ? 65518 : 0);
            due("least image " + j, signatureOf(x, 1, j), j == 1 ? 65518 : 1);
            due("no shingles " + j, signatureOf(x, 2, j), 65521);
        }
        addText(x, "a");
        due("of a later text", signatureOf(x, 3, 1), 65520);
        x.exchange(62, 0, 60000);
        addText(x, "ab");
        due("of a later text, exchanged", signatureOf(x, 4, 62), 1);
        due("alone, exchanged", signatureOf(x, 3, 62), 60000);
        due("j below 0", signatureOf(x, 0, -1), THROWS);
        due("j 64", signatureOf(x, 0, 64), THROWS);
        due("j far off", signatureOf(x, 0, Integer.MIN_VALUE), THROWS);
        due("not there", signatureOf(x, 5, 0), THROWS);
        due("below 0", signatureOf(x, -1, 0), THROWS);
        x.remove(1);
        due("gone", signatureOf(x, 1, 0), THROWS);
    }

    // ---- promise 16

    private static void both() {
        TwinFinder x = new TwinFinder();
        x.mode(0, 1);
        addText(x, "abcd");
        addText(x, "abef");
        addText(x, "");
        addText(x, "..");
        addText(x, "cd");
        five("with itself", x, 0, 0, 4, 4, 64, 0, 1);
        five("two", x, 0, 1, 2, 6, 64, 0, 0);
        five("turned", x, 1, 0, 2, 6, 64, 0, 0);
        five("one has none", x, 0, 2, 0, 4, 0, NONE, 0);
        five("none with itself", x, 2, 2, 0, 0, 64, NONE, 0);
        five("both have none", x, 2, 3, 0, 0, 64, NONE, 0);
        five("no image", x, 0, 4, 2, 4, 0, NONE, 0);
        five("none common", x, 1, 4, 0, 6, 0, NONE, 0);
        x.threshold(1, 1);
        five("with itself at 1", x, 4, 4, 2, 2, 64, 0, 1);
        due("another what", bothOf(x, 0, 1, -1), THROWS);
        due("another what", bothOf(x, 0, 1, 5), THROWS);
        due("first is not there", bothOf(x, 5, 0, 0), THROWS);
        due("second is not there", bothOf(x, 0, 5, 0), THROWS);
        due("below 0", bothOf(x, -1, -1, 4), THROWS);
        x.remove(0);
        due("gone", bothOf(x, 0, 0, 0), THROWS);
        due("gone", bothOf(x, 1, 0, 0), THROWS);
        addText(x, "abef");
        five("rows are used again", x, 1, 5, 4, 4, 64, 0, 1);
    }

    private static void bothByBands() {
        TwinFinder x = new TwinFinder();
        x.mode(0, 1);
        addText(x, "abcd");
        addText(x, "bcde");
        x.threshold(3, 5);
        due("no image is the same", bothOf(x, 0, 1, 2), 0);
        // Number 1 is in both; where its image is the least, their images are the same.
        int[] same = {2, 3, 4, 5, 6, 8, 63};
        for (int j : same) {
            x.exchange(j, 1, 0);
        }
        due("7 images of 64", bothOf(x, 0, 1, 2), 7);
        due("no band of 4 rows has all", bothOf(x, 0, 1, 3), NONE);
        due("no candidates, no twins", bothOf(x, 0, 1, 4), 0);
        x.bands(32, 2);
        due("2 and 3 are band 1", bothOf(x, 0, 1, 3), 1);
        due("twins", bothOf(x, 0, 1, 4), 1);
        due("one pair", x.pairs(1), 1);
        x.bands(64, 1);
        due("band 2", bothOf(x, 0, 1, 3), 2);
        x.bands(63, 1);
        due("6 images of 63", bothOf(x, 0, 1, 2), 6);
        x.bands(1, 2);
        due("0 and 1 alone", bothOf(x, 0, 1, 3), NONE);
        due("no pair", x.pairs(0), 0);
        due("0 images of 2", bothOf(x, 0, 1, 2), 0);
        x.bands(21, 3);
        due("3, 4, 5 are band 1", bothOf(x, 0, 1, 3), 1);
        x.tell(4, 1, 0);
        due("now they differ", bothOf(x, 0, 1, 3), NONE);
        due("now they differ: pairs", x.pairs(0), 0);
        x.exchange(7, 1, 0);
        due("6, 7, 8 are band 2", bothOf(x, 0, 1, 3), 2);
        due("6, 7, 8 are band 2: pairs", x.pairs(0), 1);
    }

    // ---- promises 17 and 18

    private static TwinFinder sixTexts() {
        TwinFinder x = new TwinFinder();
        x.mode(0, 1);
        addText(x, "z");
        addText(x, "abcd");
        addText(x, "pqrs");
        addText(x, "abce");
        addText(x, "p");
        addText(x, "pqrst");
        return x;
    }

    private static void pairs() {
        TwinFinder x = sixTexts();
        due("candidates", x.pairs(0), 4);
        due("twins", x.pairs(1), 2);
        due("families of more than one", x.pairs(2), 2);
        due("all families", x.pairs(3), 4);
        due("another sort", x.pairs(4), NONE);
        due("another sort", x.pairs(-1), NONE);
        due("far off", x.pairs(Integer.MIN_VALUE), NONE);
        addText(x, "");
        due("an empty one is a family", x.pairs(3), 5);
        due("an empty one is no candidate", x.pairs(0), 4);
        addText(x, "");
        due("two empty ones are no candidates", x.pairs(0), 4);
        x.threshold(0, 1);
        due("all candidates are twins", x.pairs(1), 4);
        due("families", x.pairs(2), 2);
        due("families", x.pairs(3), 5);
        x.threshold(1, 1);
        due("no twins", x.pairs(1), 0);
        due("no families of more", x.pairs(2), 0);
        due("all families", x.pairs(3), 8);
    }

    private static void pair() {
        TwinFinder x = sixTexts();
        pairRow("candidates", x, 0, 1, 3, 2, 4, 2, 5, 4, 5);
        pairRow("twins", x, 1, 1, 3, 2, 5);
        familyRow("families of more", x, 2, 1, 2);
        familyRow("all families", x, 3, 0, 1, 2, 4);
        due("another sort", x.pair(4, 0, 0), NONE);
        due("another sort", x.pair(-1, 0, 0), NONE);
        x.remove(2);
        addText(x, "abcf");
        pairRow("after a change", x, 0, 1, 3, 1, 6, 3, 6, 4, 5);
        pairRow("after a change", x, 1, 1, 3, 1, 6, 3, 6);
        familyRow("after a change", x, 3, 0, 1, 4, 5);
    }

    private static void allPairs() {
        TwinFinder x = new TwinFinder();
        for (int d = 0; d < 48; d++) {
            addText(x, "the same");
        }
        for (int sort = 0; sort < 2; sort++) {
            due("48 of a kind", x.pairs(sort), 1128);
            due("first of the last", x.pair(sort, 1127, 0), 46);
            due("second of the last", x.pair(sort, 1127, 1), 47);
            due("47 with the first", x.pair(sort, 46, 1), 47);
            due("then the second", x.pair(sort, 47, 0), 1);
            due("behind", x.pair(sort, 1128, 0), NONE);
        }
        due("one family", x.pairs(2), 1);
        due("one family", x.pairs(3), 1);
        due("of 48", documentOf(x, 47, 2), 48);
        due("with 47 twins", documentOf(x, 47, 3), 47);
    }

    private static void pairRow(String name, TwinFinder x, int sort, int... want) {
        for (int i = 0; i < want.length; i++) {
            due(name + " " + i, x.pair(sort, i / 2, i % 2), want[i]);
        }
        for (int what = -1; what < 3; what++) {
            due(name + ": behind", x.pair(sort, want.length / 2, what), NONE);
            due(name + ": far behind", x.pair(sort, Integer.MAX_VALUE, what), NONE);
            due(name + ": below 0", x.pair(sort, -1, what), NONE);
        }
        due(name + ": another what", x.pair(sort, 0, 2), NONE);
        due(name + ": another what", x.pair(sort, 0, -1), NONE);
    }

    private static void familyRow(String name, TwinFinder x, int sort, int... want) {
        for (int i = 0; i < want.length; i++) {
            due(name + " " + i, x.pair(sort, i, 0), want[i]);
            due(name + ": what 1", x.pair(sort, i, 1), NONE);
        }
        due(name + ": what -1", x.pair(sort, 0, -1), NONE);
        due(name + ": behind", x.pair(sort, want.length, 0), NONE);
        due(name + ": below 0", x.pair(sort, -1, 0), NONE);
        due(name + ": far below", x.pair(sort, Integer.MIN_VALUE, 0), NONE);
    }

    // ---- promise 19

    private static void nearest() {
        TwinFinder x = new TwinFinder();
        x.mode(0, 1);
        addText(x, "abcdef");
        due("no others", nearestOf(x, 0, 0), NONE);
        addText(x, "");
        addText(x, "cdefgh");
        addText(x, "xyz");
        addText(x, "ab");
        addText(x, "abcdefghi");
        addText(x, "fedcba");
        addText(x, "def");
        // Of 0: 4/8, 0/9, 2/6, 6/9, 6/6, 3/6 and 0/6 of the empty one.
        ranks("of 0", x, 0, 6, 5, 2, 7, 4, 1, 3);
        ranks("of the empty one", x, 1, 0, 2, 3, 4, 5, 6, 7);
        ranks("of one with no other", x, 3, 0, 1, 2, 4, 5, 6, 7);
        addText(x, "");
        ranks("0 / 0 is 0", x, 1, 0, 2, 3, 4, 5, 6, 7, 8);
        x.bands(1, 1);
        x.remove(6);
        ranks("candidates or not", x, 0, 5, 2, 7, 4, 1, 3, 8);
        addText(x, "p");
        addText(x, "pq");
        addText(x, "p");
        ranks("1 / 1 before 1 / 2", x, 9, 11, 10, 0, 1, 2, 3, 4, 5, 7, 8);
        due("not there", nearestOf(x, 6, 0), THROWS);
        due("not there, none such", nearestOf(x, 12, -1), THROWS);
        due("below 0", nearestOf(x, -1, 0), THROWS);
        due("far off", nearestOf(x, 0, Integer.MIN_VALUE), NONE);
        due("far off", nearestOf(x, 0, Integer.MAX_VALUE), NONE);
    }

    private static void ranks(String name, TwinFinder x, int d, int... want) {
        for (int i = 0; i < want.length; i++) {
            due(name + ": nearest " + i, nearestOf(x, d, i), want[i]);
        }
        due(name + ": behind", nearestOf(x, d, want.length), NONE);
        due(name + ": below 0", nearestOf(x, d, -1), NONE);
    }

    // ---- promise 20

    private static void count() {
        TwinFinder x = new TwinFinder();
        x.mode(1, 2);
        addText(x, "one two three");
        addText(x, "one two");
        x.remove(0);
        type(x, "..Some  TEXT!\n\n7");
        x.exchange(1, 2, 3);
        x.exchange(1, 2, 2);
        x.bands(5, 6);
        x.threshold(7, 8);
        counts("count", x, 16, 11, 1, 2, 2, 16, 2, 5, 6, 7, 8, 1, 2);
        counts("the tape stays", x, 16, 11, 1, 2, 2, 16, 2, 5, 6, 7, 8, 1, 2);
        due("the tape stays as it is", x.end(13), true);
        due("made plain again", x.count(1), 9);
        due("another what", x.count(13), NONE);
        due("another what", x.count(-1), NONE);
        due("far off", x.count(Integer.MIN_VALUE), NONE);
        due("far off", x.count(Integer.MAX_VALUE), NONE);
    }

    // ---- helpers

    /** Texts in which no four bytes in a row ever come twice, not even in two texts. */
    private static final class Unlike {
        private static final String SIGNS = "0123456789abcdefghijklmnopqrstuvwxyz";
        private final java.util.HashSet<String> seen = new java.util.HashSet<>();
        private final java.util.Random dice = new java.util.Random(7);

        String next(int length) {
            StringBuilder text = new StringBuilder();
            while (text.length() < length) {
                text.append(SIGNS.charAt(dice.nextInt(36)));
                int n = text.length();
                if (n >= 4 && !seen.add(text.substring(n - 4))) {
                    text.setLength(n - 1);
                }
            }
            return text.toString();
        }
    }

    private static String threeLetterWords(int from, int words) {
        StringBuilder text = new StringBuilder();
        for (int w = from; w < from + words; w++) {
            text.append(Integer.toString(36 * 36 + w, 36)).append(' ');
        }
        return text.toString();
    }

    private static void type(TwinFinder x, String text) {
        int before = x.count(0);
        int[] five = new int[5];
        for (int from = 0; from < text.length(); from += 20) {
            for (int i = 0; i < 20; i++) {
                int sign = from + i < text.length() ? text.charAt(from + i) : 0;
                five[i / 4] = five[i / 4] << 8 | sign;
            }
            x.feed(five[0], five[1], five[2], five[3], five[4]);
        }
        x.end(before + text.length());
    }

    private static int addText(TwinFinder x, String text) {
        type(x, text);
        return x.add();
    }

    private static int modeOf(TwinFinder x, int sort, int k) {
        try {
            return x.mode(sort, k);
        } catch (IllegalArgumentException e) {
            return THROWS;
        }
    }

    private static int documentOf(TwinFinder x, int d, int what) {
        try {
            return x.document(d, what);
        } catch (NoSuchElementException e) {
            return THROWS;
        }
    }

    private static int shingleOf(TwinFinder x, int d, int i) {
        try {
            return x.shingle(d, i);
        } catch (NoSuchElementException e) {
            return THROWS;
        }
    }

    private static int signatureOf(TwinFinder x, int d, int j) {
        try {
            return x.signature(d, j);
        } catch (NoSuchElementException e) {
            return THROWS;
        }
    }

    private static int bothOf(TwinFinder x, int a, int b, int what) {
        try {
            return x.both(a, b, what);
        } catch (NoSuchElementException e) {
            return THROWS;
        }
    }

    private static int nearestOf(TwinFinder x, int d, int i) {
        try {
            return x.nearest(d, i);
        } catch (NoSuchElementException e) {
            return THROWS;
        }
    }

    private static void counts(String name, TwinFinder x, int... want) {
        for (int what = 0; what < want.length; what++) {
            due(name + ": count " + what, x.count(what), want[what]);
        }
    }

    private static void five(String name, TwinFinder x, int a, int b, int... want) {
        for (int what = 0; what < want.length; what++) {
            due(name + ": both " + what, bothOf(x, a, b, what), want[what]);
        }
    }

    private static void row(String name, TwinFinder x, int d, int... want) {
        due(name + ": how many", documentOf(x, d, 0), want.length);
        for (int i = 0; i < want.length; i++) {
            due(name + ": shingle " + i, shingleOf(x, d, i), want[i]);
        }
        due(name + ": behind", shingleOf(x, d, want.length), NONE);
    }

    private static void spells(String name, TwinFinder x, int number, String want) {
        for (int k = 0; k < want.length(); k++) {
            due(name + ": letter " + k, x.letter(number, k), want.charAt(k));
        }
        due(name + ": behind", x.letter(number, want.length()), NONE);
    }

    private static void due(String name, boolean got, boolean want) {
        due(name, got ? 1 : 0, want ? 1 : 0);
    }

    private static void due(String name, int got, int want) {
        checks++;
        if (got != want) {
            wrong++;
            System.out.println(name + " answered " + got + ", due is " + want);
        }
    }
}
