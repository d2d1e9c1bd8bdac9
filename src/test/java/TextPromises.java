/** The sentences on texts, shingles and documents: promises 1 to 6, 13 and 14, and what the terms say of these. */
public final class TextPromises {
    private static final int NONE = Finder.NONE;
    private static final int LOWEST = Integer.MIN_VALUE;
    private static final int HIGHEST = Integer.MAX_VALUE;
    private static final String TWENTY = "abcdefghijklmnopqrst";

    public static void main(String[] args) {
        Sentences.run(TextPromises.class, 1, 2, 3, 4, 5, 6, 13, 14);
    }

    private static void due(String name, Object got, Object want) {
        Sentences.due(name, got, want);
    }

    // ---- promise 1

    @Says("No DOCUMENTS")
    private static void promise1_noDocuments() {
        Finder x = new Finder();
        due("there", x.count(2), 0);
        due("that came", x.count(3), 0);
        due("document", x.document(0, 0), Finder.NO_SUCH);
        due("pairs", x.pairCounts(), "0 0 0 0");
        due("remove", x.remove(0), false);
        due("mode", x.mode(0, 4), 0);
    }

    @Says("MODE sort 0, k = 4")
    private static void promise1_shinglesOfFourBytes() {
        Finder x = new Finder();
        due("sort", x.count(11), 0);
        due("k", x.count(12), 4);
        due("first number", x.addText("ab cd"), 0);
        due("shingles", x.shingles(0), "0 1");
        due("the first", x.spelled(0), "ab c");
    }

    @Says("A new object has nothing on its tape and no SHINGLES")
    private static void promise1_nothingHasCome() {
        Finder x = new Finder();
        due("counts", x.counts(), "0 0 0 0 0 0 0 16 4 1 2 0 4");
        due("letter", x.letter(0, 0), NONE);
        due("feed", x.feed(0, 0, 0, 0, 0), 20);
    }

    @Says("PERMUTATIONS 0 .. 63 of the numbers 0 .. 65520: at first each leaves all as they are")
    private static void promise1_permutationsLeaveAllAsTheyAre() {
        Finder x = new Finder();
        for (int j = 0; j < 64; j++) {
            due("of 0 in " + j, x.image(j, 0), 0);
            due("of 65520 in " + j, x.image(j, 65520), 65520);
            due("of one between in " + j, x.image(j, 1 + 1000 * j), 1 + 1000 * j);
        }
        due("exchanges", x.count(6), 0);
    }

    @Says("(16 of 4 at first)")
    private static void promise1_sixteenBandsOfFourRows() {
        Finder x = Finder.ofSigns("abcd", "bcde");
        due("b", x.count(7), 16);
        due("r", x.count(8), 4);
        for (int j = 59; j < 63; j++) {
            x.exchange(j, 0, 1);
        }
        due("59 .. 62 are no band", x.both(0, 1, 3), NONE);
        x.exchange(63, 0, 1);
        due("60 .. 63 are the last", x.both(0, 1, 3), 15);
    }

    @Says("the THRESHOLD (1 / 2 at first)")
    private static void promise1_thresholdIsOneHalf() {
        Finder x = Finder.ofSigns("ab", "abcd", "abcde");
        due("p", x.count(9), 1);
        due("q", x.count(10), 2);
        due("2 of 4", x.both(0, 1, 4), 1);
        due("2 of 5", x.both(0, 2, 4), 0);
    }

    @Says("public static final int NONE = -1")
    private static void promise1_noneIsMinusOne() {
        due("NONE", TwinFinder.NONE, -1);
    }

    // ---- promise 2

    @Says("Twenty bytes come behind the tape ..: how many it has")
    private static void promise2_answersHowManyTheTapeHas() {
        Finder x = new Finder();
        due("first", x.feed(1, 2, 3, 4, 5), 20);
        due("second", x.feed(0, 0, 0, 0, 0), 40);
        due("third", x.feed(-1, LOWEST, HIGHEST, -1, 0), 60);
        due("count", x.count(0), 60);
        x.end(7);
        due("behind 7", x.feed(0, 0, 0, 0, 0), 27);
    }

    @Says("of each number the highest first")
    private static void promise2_highestByteFirst() {
        Finder x = new Finder();
        x.mode(1, 1);
        x.feed(0x61626364, 0x65666768, 0x696A6B6C, 0x6D6E6F70, 0x71727374);
        x.add();
        due("the text", x.spelled(0), TWENTY);
    }

    @Says("Twenty bytes come behind the tape")
    private static void promise2_comeBehindWhatIsThere() {
        Finder x = new Finder();
        x.mode(1, 1);
        x.type(TWENTY);
        x.type("0123456789");
        x.end(25);
        x.type("XYZ");
        x.add();
        due("the text", x.spelled(0), TWENTY + "01234xyz");
    }

    @Says("TEXTS have at most 800 bytes")
    private static void promise2_eightHundredBytesAreTaken() {
        Finder x = new Finder();
        for (int i = 1; i <= 40; i++) {
            due("feed " + i, x.feed(i, i, i, i, i), 20 * i);
        }
        due("count", x.count(0), 800);
        x.end(780);
        due("from 780", x.feed(1, 2, 3, 4, 5), 800);
    }

    @Says("NONE, and none come, if it would have more than 800")
    private static void promise2_noneComeBeyond800() {
        Finder x = Finder.of(1, 1);
        x.type("a".repeat(800));
        int[] lengths = {800, 799, 790, 781};
        for (int length : lengths) {
            x.end(length);
            due("from " + length, x.feed(0x62626262, 0x62626262, 0x62626262, 0x62626262, 0x62626262), NONE);
            due("it still has", x.count(0), length);
        }
        due("added", x.add(), 0);
        due("its last byte", x.letter(0, 780), (int) 'a');
        due("and no more", x.letter(0, 781), NONE);
    }

    @Says("NONE, and none come (what came before stays)")
    private static void promise2_refusedFeedChangesNothing() {
        Finder full = Finder.of(1, 1);
        full.type("ab".repeat(400));
        due("refused", full.feed(0, 0, 0, 0, 0), NONE);
        due("cut", full.end(3), true);
        full.add();
        due("the first three", full.spelled(0), "aba");
        due("the empty tape takes more", full.feed(0, 0, 0, 0, 0), 20);
    }

    @Says("Twenty bytes come (any of the 256)")
    private static void promise2_anyBytesCome() {
        Finder x = new Finder();
        due("zeros", x.feed(0, 0, 0, 0, 0), 20);
        due("ones", x.feed(-1, -1, -1, -1, -1), 40);
        due("high bits", x.feed(0x80808080, 0x80FF80FF, LOWEST, HIGHEST, 0xE1E1E1E1), 60);
        due("no letters among them", x.count(1), 0);
        due("a letter in the last place", x.feed(0, 0, 0, 0, 0x7A), 80);
        due("one letter", x.count(1), 1);
    }

    // ---- promise 3

    @Says("The tape has its first n bytes alone: true")
    private static void promise3_firstBytesAlone() {
        Finder x = Finder.of(1, 1);
        x.type(TWENTY);
        due("end 5", x.end(5), true);
        due("count", x.count(0), 5);
        x.add();
        due("the text", x.spelled(0), "abcde");
    }

    @Says("The tape has its first n bytes alone (n may be all of them)")
    private static void promise3_allOfThem() {
        Finder x = Finder.of(1, 1);
        x.type(TWENTY);
        due("end 20", x.end(20), true);
        due("count", x.count(0), 20);
        due("once more", x.end(20), true);
        x.add();
        due("the text", x.spelled(0), TWENTY);
    }

    @Says("The tape has its first n bytes alone (n may be 0)")
    private static void promise3_noneOfThem() {
        Finder x = new Finder();
        due("of an empty tape", x.end(0), true);
        x.type(TWENTY);
        due("of 20", x.end(0), true);
        due("count", x.count(0), 0);
        due("feed", x.feed(0, 0, 0, 0, 0), 20);
    }

    @Says("false, if it has not so many")
    private static void promise3_notSoMany() {
        Finder x = Finder.of(1, 1);
        due("1 of none", x.end(1), false);
        x.type(TWENTY);
        due("21 of 20", x.end(21), false);
        due("800 of 20", x.end(800), false);
        due("far more", x.end(HIGHEST), false);
        due("count", x.count(0), 20);
        x.add();
        due("the text", x.spelled(0), TWENTY);
    }

    @Says("false, if .. n is below 0")
    private static void promise3_belowZero() {
        Finder x = Finder.of(1, 1);
        due("-1 of none", x.end(-1), false);
        x.type(TWENTY);
        due("-1 of 20", x.end(-1), false);
        due("-20 of 20", x.end(-20), false);
        due("far below", x.end(LOWEST), false);
        due("count", x.count(0), 20);
        x.add();
        due("the text", x.spelled(0), TWENTY);
    }

    @Says("The tape has its first n bytes alone (a full one too)")
    private static void promise3_ofAFullTape() {
        Finder x = new Finder();
        x.type("a".repeat(800));
        due("801", x.end(801), false);
        due("800", x.end(800), true);
        due("799", x.end(799), true);
        due("800 of 799", x.end(800), false);
        due("count", x.count(0), 799);
    }

    @Says("its first n bytes alone (the others are gone)")
    private static void promise3_cutBytesDoNotComeBack() {
        Finder x = Finder.of(1, 1);
        x.type(TWENTY);
        x.end(5);
        due("6 of 5", x.end(6), false);
        x.feed(0, 0, 0, 0, 0);
        due("cut again", x.end(20), true);
        x.add();
        due("the text", x.spelled(0), "abcde");
    }

    @Says("false (and the tape stays)")
    private static void promise3_refusedEndChangesNothing() {
        Sentences.unchanged(x -> {
            x.end(-1);
            x.end(7);
            x.end(LOWEST);
            x.end(HIGHEST);
        });
    }

    // ---- promise 4: the number

    @Says("The tape comes as a DOCUMENT: its number (0, 1, ..)")
    private static void promise4_numbersFromZeroOn() {
        Finder x = new Finder();
        due("first", x.addText("abcdef"), 0);
        due("second", x.addText("abcdef"), 1);
        due("there", x.count(2), 2);
        x.remove(1);
        due("no number comes twice", x.addText("abcdef"), 2);
        x.remove(0);
        due("nor the first", x.addText("abcdef"), 3);
        due("that came", x.count(3), 4);
    }

    @Says("The tape (empty then)")
    private static void promise4_tapeIsEmptyThen() {
        Finder x = new Finder();
        x.addText("abcdef");
        due("count", x.count(0), 0);
        due("plain", x.count(1), 0);
        due("end 1", x.end(1), false);
        x.add();
        due("the next is empty", x.document(1, 0), 0);
        due("feed", x.feed(0, 0, 0, 0, 0), 20);
    }

    @Says("The tape comes as a DOCUMENT (an empty one too)")
    private static void promise4_emptyTextComes() {
        Finder x = new Finder();
        due("empty", x.add(), 0);
        due("there", x.count(2), 1);
        due("of it", x.documents(0), "0 0 1 0");
        due("no shingles", x.shingles(0), "");
        due("no numbers", x.count(4), 0);
    }

    @Says("TEXTS have at most 800 bytes (all 800 count)")
    private static void promise4_textOf800Bytes() {
        for (int k = 1; k <= 9; k++) {
            Finder x = Finder.of(0, k);
            x.addText("a".repeat(799) + "b");
            due("shingles, k " + k, x.document(0, 0), 2);
            due("the last, k " + k, x.spelled(1), "a".repeat(k - 1) + "b");
        }
        Finder most = Finder.of(0, 4);
        most.addText(Texts.unlikeIn(4).next(800));
        due("797 are unlike", most.document(0, 0), 797);
        due("the last number", most.shingle(0, 796), 796);
        due("none behind", most.shingle(0, 797), NONE);
    }

    // ---- promise 4: the plain text

    @Says("A .. Z become a .. z; .. bytes that are no letters a .. z and no digits")
    private static void promise4_plainOfEachByte() {
        for (int sign = 0; sign < 256; sign++) {
            boolean isGreat = sign >= 'A' && sign <= 'Z';
            boolean stays = sign >= 'a' && sign <= 'z' || sign >= '0' && sign <= '9';
            char plain = isGreat ? (char) (sign + 32) : stays ? (char) sign : ' ';
            Finder x = Finder.of(0, 3);
            x.type(String.valueOf((char) sign));
            due("alone " + sign, x.count(1), plain == ' ' ? 0 : 1);
            x.end(0);
            x.addText("x" + (char) sign + "y");
            due("between " + sign, x.spelled(0), "x" + plain + "y");
        }
    }

    @Says("each longest row of bytes that are no letters a .. z and no digits becomes one blank (32)")
    private static void promise4_longestRowBecomesOneBlank() {
        String[] rows = {".", "  ", "\0\u00ff", " \t\r\n.,;-", "\u00e1\u00da@[`{/:", ".".repeat(17), ".".repeat(18),
            ".".repeat(19), ".".repeat(40), "\0".repeat(798)};
        for (String row : rows) {
            Finder x = Finder.of(0, 3);
            x.addText("a" + row + "b");
            due("one shingle", x.shingles(0), "0");
            due("one blank", x.spelled(0), "a b");
        }
        Finder two = Finder.of(0, 7);
        two.addText("1--B, .c\n2");
        due("each row", two.spelled(0), "1 b c 2");
    }

    @Says("none stays at the beginning and at the end")
    private static void promise4_noBlankAtTheEdges() {
        String[] texts = {" a", "a ", " a ", "...a", "a...", "..a..",
            "\0".repeat(799) + "a", "a" + "\u00ff".repeat(799)};
        for (String text : texts) {
            Finder x = Finder.of(0, 1);
            x.type(text);
            due("one byte", x.count(1), 1);
            x.add();
            due("one shingle", x.shingles(0), "0");
            due("the letter", x.spelled(0), "a");
        }
    }

    @Says("none stays (a text of such bytes alone is empty)")
    private static void promise4_nothingButBlanks() {
        for (int sort = 0; sort < 2; sort++) {
            String[] texts = {" ", "..", "\0".repeat(800)};
            Finder x = Finder.of(sort, 1);
            for (int d = 0; d < texts.length; d++) {
                x.type(texts[d]);
                due("plain", x.count(1), 0);
                due("it comes", x.add(), d);
                due("no shingles", x.document(d, 0), 0);
            }
            due("no numbers", x.count(4), 0);
        }
    }

    // ---- promise 4: the shingles

    @Says("sort 0: each k bytes of PLAIN in a row; .. (Fewer: none.)")
    private static void promise4_rowsOfBytes() {
        String signs = "abcdefghij";
        for (int k = 1; k <= 9; k++) {
            Finder x = Finder.of(0, k, signs.substring(0, k - 1), signs.substring(0, k), signs.substring(0, k + 1));
            due("fewer than " + k, x.shingles(0), "");
            due("just " + k, x.shingles(1), "0");
            due("just " + k, x.spelled(0), signs.substring(0, k));
            due("one more than " + k, x.shingles(2), "0 1");
            due("one more than " + k, x.spelled(1), signs.substring(1, k + 1));
        }
    }

    @Says("sort 0: each k bytes of PLAIN in a row (blanks are bytes of it)")
    private static void promise4_rowsOfBytesHaveBlanks() {
        Finder x = Finder.of(0, 2, "A..b C");
        due("shingles", x.shingles(0), "0 1 2 3");
        due("0", x.spelled(0), "a ");
        due("1", x.spelled(1), " b");
        due("2", x.spelled(2), "b ");
        due("3", x.spelled(3), " c");
    }

    @Says("sort 1: each k WORDS in a row, with the blanks between. (Fewer: none.)")
    private static void promise4_rowsOfWords() {
        String words = "a bb c dd e ff g hh i jj";
        int[] ends = {0, 1, 4, 6, 9, 11, 14, 16, 19, 21, 24};
        for (int k = 1; k <= 9; k++) {
            Finder x = Finder.of(1, k, words.substring(0, ends[k - 1]), words.substring(0, ends[k]),
                words.substring(0, ends[k + 1]));
            due("fewer than " + k, x.shingles(0), "");
            due("just " + k, x.shingles(1), "0");
            due("just " + k, x.spelled(0), words.substring(0, ends[k]));
            due("one more than " + k, x.shingles(2), "0 1");
            due("one more than " + k, x.spelled(1), words.substring(2, ends[k + 1]));
        }
    }

    @Says("WORDS (what lies between blanks)")
    private static void promise4_wordsBetweenAnyRows() {
        Finder x = Finder.of(1, 2, "  One, 2two--THREE\0\0oNe\u00e9two ");
        due("shingles", x.shingles(0), "0 1 2 3");
        due("0", x.spelled(0), "one 2two");
        due("1", x.spelled(1), "2two three");
        due("2", x.spelled(2), "three one");
        due("3", x.spelled(3), "one two");
    }

    @Says("WORDS (one of 800 bytes, or 400 of one)")
    private static void promise4_longestAndMostWords() {
        Finder x = Finder.of(1, 1, "a".repeat(800), "b ".repeat(400));
        due("one long word", x.shingles(0), "0");
        due("its last byte", x.letter(0, 799), (int) 'a');
        due("behind it", x.letter(0, 800), NONE);
        due("one word 400 times", x.shingles(1), "1");
        due("bytes", x.count(5), 801);
        x.mode(1, 9);
        x.addText("c ".repeat(399) + "d");
        due("the last row of words", x.shingles(0), "0 1");
        due("the last row of words", x.spelled(1), "c c c c c c c c d");
    }

    @Says("Two are the same, if their bytes are")
    private static void promise4_sameIfTheirBytesAre() {
        Finder x = Finder.of(0, 2, "ababab", "BA", "a b", "aab");
        due("twice in one text", x.shingles(0), "0 1");
        due("in a later text", x.shingles(1), "1");
        due("a blank is another byte", x.shingles(2), "2 3");
        due("one of two is the same", x.shingles(3), "0 4");
        Finder words = Finder.of(1, 2, "a bc", "ab c", "a bcd", "A  BC", "bc a");
        due("the blank's place", words.shingles(1), "1");
        due("a longer word", words.shingles(2), "2");
        due("other rows between", words.shingles(3), "0");
        due("another order", words.shingles(4), "3");
        Finder single = Finder.of(1, 1, "a aa aaa 0 00", "aaa aa a");
        due("of unlike lengths", single.shingles(0), "0 1 2 3 4");
        due("again", single.shingles(1), "0 1 2");
    }

    @Says("Two are the same, if their bytes are (the beginning of one is another)")
    private static void promise4_beginningsAreOthers() {
        for (int n = 0; n < 300; n++) {
            String whole = Texts.unlikeIn(9).next(n + 38).substring(n);
            StringBuilder beginnings = new StringBuilder();
            for (int length = 38; length > 0; length--) {
                beginnings.append(whole, 0, length).append(' ');
            }
            Finder x = Finder.of(1, 1, beginnings.toString());
            due("beginnings of " + whole, x.count(4), 38);
            due("the shortest", x.spelled(37), whole.substring(0, 1));
        }
    }

    @Says("A SHINGLE that was never there before gets the next number, 0, 1, .. , along the text")
    private static void promise4_numbersAlongTheText() {
        Finder x = Finder.of(0, 4, "abcdef", "zzzzzabcdzzzz");
        due("first text", x.shingles(0), "0 1 2");
        due("second text", x.shingles(1), "0 3 4 5 6 7 8 9");
        due("0", x.spelled(0), "abcd");
        due("2", x.spelled(2), "cdef");
        due("3", x.spelled(3), "zzzz");
        due("4", x.spelled(4), "zzza");
        due("9", x.spelled(9), "dzzz");
        due("how many", x.count(4), 10);
        due("their bytes", x.count(5), 40);
    }

    @Says("A SHINGLE that was never there before gets the next number (of thousands each its own)")
    private static void promise4_manyUnlikeShingles() {
        Finder x = Finder.of(1, 1);
        for (int d = 0; d < 5; d++) {
            x.addText(Texts.words(200 * d, 200));
            due("numbers", x.count(4), 200 * (d + 1));
            due("bytes", x.count(5), 600 * (d + 1));
        }
        x.addText(Texts.words(100, 200));
        due("old ones have none again", x.count(4), 1000);
        due("from 100 on", x.shingle(5, 0), 100);
        due("to 299", x.shingle(5, 199), 299);
        for (int n = 0; n < 1000; n += 37) {
            due("word " + n, x.spelled(n) + " ", Texts.words(n, 1));
        }
    }

    // ---- promise 4: the limits

    /** Seven documents with 5551 shingles of 8 bytes: 449 more may come. */
    private static Finder near6000(Texts unlike) {
        Finder x = Finder.of(0, 8);
        for (int d = 0; d < 7; d++) {
            x.addText(unlike.next(800));
        }
        return x;
    }

    @Says("At most 6000 get one")
    private static void promise4_sixThousandShingles() {
        Texts unlike = Texts.unlikeIn(8);
        Finder x = near6000(unlike);
        due("before", x.count(4), 5551);
        due("450 more", x.addText(unlike.next(457)), NONE);
        String last = unlike.next(456);
        due("449 more", x.addText(last), 7);
        due("6000", x.count(4), 6000);
        due("their bytes", x.count(5), 48000);
        due("the last one", x.spelled(5999), last.substring(448));
        due("one more", x.addText(unlike.next(8)), NONE);
        due("still 6000", x.count(4), 6000);
    }

    @Says("At most 6000 get one (a text whose SHINGLES have numbers needs none)")
    private static void promise4_oldShinglesComeWhenAllAreGiven() {
        Texts unlike = Texts.unlikeIn(8);
        Finder x = near6000(unlike);
        String last = unlike.next(456);
        x.addText(last);
        due("the same text", x.addText(last), 8);
        due("the same shingles", x.both(7, 8, 0), 449);
        due("a part of it", x.addText(last.substring(100, 120)), 9);
        due("its shingles", x.shingles(9), Texts.numbers(5651, 5663));
        due("a text without shingles", x.addText("abc"), 10);
        due("an empty one", x.add(), 11);
        char another = last.charAt(120) == 'a' ? 'b' : 'a';
        due("one new one behind old ones", x.addText(last.substring(100, 120) + another), NONE);
    }

    /** 49840 bytes of shingles, nine words of three letters each: one of 160 bytes may come. */
    private static Finder near50000() {
        Finder x = Finder.of(1, 9);
        for (int d = 0; d < 7; d++) {
            x.addText(Texts.words(200 * d, 200));
        }
        x.addText(Texts.words(1400, 88));
        return x;
    }

    @Says("with 50000 bytes together")
    private static void promise4_fiftyThousandBytes() {
        Finder x = near50000();
        due("before", x.count(5), 49840);
        due("161 more", x.addText("a".repeat(145) + " 1 2 3 4 5 6 7 8"), NONE);
        due("160 more", x.addText("b".repeat(144) + " 1 2 3 4 5 6 7 8"), 8);
        due("50000", x.count(5), 50000);
        due("numbers", x.count(4), 1425);
        due("its number", x.shingles(8), "1424");
        due("its first byte", x.letter(1424, 0), (int) 'b');
        due("its last byte", x.letter(1424, 159), (int) '8');
        due("one more", x.addText("1 2 3 4 5 6 7 8 9"), NONE);
        due("still 50000", x.count(5), 50000);
        due("an old one", x.addText(Texts.words(0, 9)), 9);
    }

    @Says("with 50000 bytes together (5555 of nine)")
    private static void promise4_bytesEndBeforeNumbers() {
        Texts unlike = Texts.unlikeIn(9);
        Finder x = Finder.of(0, 9);
        for (int d = 0; d < 7; d++) {
            x.addText(unlike.next(800));
        }
        due("before", x.count(5), 49896);
        due("108 more", x.addText(unlike.next(20)), NONE);
        due("99 more", x.addText(unlike.next(19)), 7);
        due("bytes", x.count(5), 49995);
        due("numbers", x.count(4), 5555);
        due("one more", x.addText(unlike.next(9)), NONE);
        due("numbers stay", x.count(4), 5555);
    }

    @Says("NONE, and nothing comes (no SHINGLE gets a number), if .. SHINGLES would be more than told")
    private static void promise4_refusedForShinglesNothingComes() {
        Texts unlike = Texts.unlikeIn(8);
        Finder x = near6000(unlike);
        String tooMany = unlike.next(457);
        due("refused", x.addText(tooMany), NONE);
        due("counts", x.counts(), "0 0 7 7 5551 44408 0 16 4 1 2 0 8");
        due("no letter", x.letter(5551, 0), NONE);
        due("no document", x.document(7, 0), Finder.NO_SUCH);
        due("a later text", x.addText(tooMany.substring(200, 208) + " " + tooMany.substring(0, 8)), 7);
        due("has the next numbers", x.shingles(7), Texts.numbers(5551, 5560));
        due("along itself", x.spelled(5551), tooMany.substring(200, 208));
        due("to its end", x.spelled(5560), tooMany.substring(0, 8));
    }

    @Says("NONE, and nothing comes (no SHINGLE gets a number), if .. SHINGLES would be more than told (in bytes)")
    private static void promise4_refusedForBytesNothingComes() {
        Finder x = near50000();
        String eight = " 1 2 3 4 5 6 7 8";
        due("by the second", x.addText("a".repeat(140) + eight + " b"), NONE);
        due("counts", x.counts(), "0 0 8 8 1424 49840 0 16 4 1 2 1 9");
        due("no letter", x.letter(1424, 0), NONE);
        due("no document", x.document(8, 0), Finder.NO_SUCH);
        due("that second one", x.addText("1 2 3 4 5 6 7 8 b"), 8);
        due("has the next number", x.shingles(8), "1424");
        due("is spelled", x.spelled(1424), "1 2 3 4 5 6 7 8 b");
    }

    @Says("At most 48 are there at a time; NONE, and nothing comes (no SHINGLE gets a number), if there are 48")
    private static void promise4_fortyEightDocuments() {
        Finder x = new Finder();
        for (int d = 0; d < 47; d++) {
            due("add " + d, x.add(), d);
        }
        due("the 48th", x.addText("abcde"), 47);
        due("a 49th", x.addText("never seen"), NONE);
        due("counts", x.counts(), "0 0 48 48 2 8 0 16 4 1 2 0 4");
        due("no letter", x.letter(2, 0), NONE);
        due("no document", x.document(48, 0), Finder.NO_SUCH);
        due("an empty 49th", x.add(), NONE);
        due("of old shingles", x.addText("abcd"), NONE);
        due("there", x.count(2), 48);
    }

    @Says("At most 48 are there at a time (when one goes, one may come)")
    private static void promise4_oneMayComeWhenOneWent() {
        int[] which = {0, 20, 47};
        for (int gone : which) {
            Finder x = new Finder();
            for (int d = 0; d < 48; d++) {
                x.add();
            }
            due("full", x.add(), NONE);
            due("one goes", x.remove(gone), true);
            due("one comes", x.addText("abcd"), 48);
            due("its shingles", x.shingles(48), "0");
            due("full again", x.add(), NONE);
            due("that came", x.count(3), 49);
        }
    }

    @Says("400 at most in all; NONE, and nothing comes (no SHINGLE gets a number), if .. 400 came")
    private static void promise4_fourHundredDocuments() {
        Finder x = Finder.beyondThePromisedCalls();
        for (int d = 0; d < 399; d++) {
            due("add " + d, x.add(), d);
            due("remove " + d, x.remove(d), true);
        }
        due("the 400th", x.addText("abcd"), 399);
        due("a 401st", x.addText("never seen"), NONE);
        due("counts", x.counts(), "0 0 1 400 1 4 0 16 4 1 2 0 4");
        x.remove(399);
        due("though none is there", x.add(), NONE);
        due("that came", x.count(3), 400);
    }

    @Says("The tape (empty then) .. NONE")
    private static void promise4_tapeIsEmptyWhenRefusedToo() {
        Finder x = new Finder();
        for (int d = 0; d < 48; d++) {
            x.add();
        }
        due("refused", x.addText("abcdef"), NONE);
        due("count", x.count(0), 0);
        x.remove(0);
        due("the next", x.add(), 48);
        due("has nothing of it", x.document(48, 0), 0);
    }

    // ---- promise 5

    @Says("DOCUMENT d goes: true")
    private static void promise5_goes() {
        Finder x = Finder.ofSigns("abcd", "abce", "abcf");
        due("remove", x.remove(1), true);
        due("it is not there", x.documents(1), "-1002 -1002 -1002 -1002");
        due("there", x.count(2), 2);
        due("that came", x.count(3), 3);
        due("pairs", x.pairRow(1), "0-2");
        due("ranks", x.ranks(0), "2");
        due("family", x.documents(2), "4 0 2 1");
        due("the first", x.remove(0), true);
        due("the last", x.remove(2), true);
        due("none is left", x.pairCounts(), "0 0 0 0");
    }

    @Says("false if it is not there")
    private static void promise5_notThere() {
        Finder x = new Finder();
        due("none came", x.remove(0), false);
        x.addTexts("abcdef", "bcdefg");
        due("below 0", x.remove(-1), false);
        due("did not come yet", x.remove(2), false);
        due("400", x.remove(400), false);
        due("far off", x.remove(HIGHEST), false);
        due("far below", x.remove(LOWEST), false);
        due("both stay", x.count(2), 2);
        x.remove(0);
        due("gone before", x.remove(0), false);
        due("one stays", x.count(2), 1);
        x.mode(0, 4);
        due("gone by another mode", x.remove(1), false);
    }

    @Says("it has it for good (also when no text has it any more)")
    private static void promise5_shinglesStay() {
        Finder x = Finder.of(0, 4, "abcdef", "bcdefg");
        x.remove(0);
        x.remove(1);
        due("numbers", x.count(4), 4);
        due("bytes", x.count(5), 16);
        due("0", x.spelled(0), "abcd");
        due("3", x.spelled(3), "defg");
        x.addText("xabcdefg");
        due("old ones and the next", x.shingles(2), "0 1 2 3 4");
        due("the next", x.spelled(4), "xabc");
    }

    @Says("it has it for good (no room comes back)")
    private static void promise5_freesNoNumbers() {
        Texts unlike = Texts.unlikeIn(8);
        Finder x = near6000(unlike);
        x.addText(unlike.next(456));
        for (int d = 0; d < 8; d++) {
            x.remove(d);
        }
        due("none is there", x.count(2), 0);
        due("one more", x.addText(unlike.next(8)), NONE);
        due("6000", x.count(4), 6000);
    }

    @Says("false (and nothing goes)")
    private static void promise5_refusedRemoveChangesNothing() {
        Sentences.unchanged(x -> {
            x.remove(-1);
            x.remove(1);
            x.remove(5);
            x.remove(LOWEST);
            x.remove(HIGHEST);
        });
    }

    // ---- promise 6

    @Says("Another MODE: how many DOCUMENTS went")
    private static void promise6_howManyWent() {
        Finder x = new Finder();
        due("none", x.mode(1, 3), 0);
        x.addTexts("a", "b", "c");
        x.remove(1);
        due("two of three", x.mode(0, 2), 2);
        due("none are left", x.mode(0, 2), 0);
        for (int d = 0; d < 48; d++) {
            x.add();
        }
        due("48", x.mode(1, 1), 48);
    }

    @Says("(sort, k from 1 to 9)")
    private static void promise6_allModes() {
        Finder x = new Finder();
        for (int sort = 0; sort < 2; sort++) {
            for (int k = 1; k <= 9; k++) {
                due("mode " + sort + " " + k, x.mode(sort, k), 0);
                due("sort", x.count(11), sort);
                due("k", x.count(12), k);
            }
        }
    }

    @Says("IllegalArgumentException: there is no such sort")
    private static void promise6_noSuchSort() {
        Finder x = new Finder();
        int[] sorts = {-1, 2, 3, LOWEST, HIGHEST};
        for (int sort : sorts) {
            due("sort " + sort, x.mode(sort, 7), Finder.ILLEGAL);
            due("sort stays", x.count(11), 0);
            due("k stays", x.count(12), 4);
        }
    }

    @Says("IllegalArgumentException: there is no such .. k")
    private static void promise6_noSuchK() {
        Finder x = new Finder();
        int[] ks = {0, 10, -1, -4, LOWEST, HIGHEST};
        for (int k : ks) {
            due("k " + k, x.mode(0, k), Finder.ILLEGAL);
            due("k " + k + " of words", x.mode(1, k), Finder.ILLEGAL);
            due("k stays", x.count(12), 4);
            due("sort stays", x.count(11), 0);
        }
    }

    @Says("A call that throws changes nothing")
    private static void promise6_refusedModeChangesNothing() {
        Sentences.unchanged(x -> {
            x.mode(-1, 2);
            x.mode(2, 3);
            x.mode(0, 0);
            x.mode(1, 10);
            x.mode(LOWEST, HIGHEST);
        });
    }

    @Says("(the same MODE is another one, too)")
    private static void promise6_sameModeIsAnotherOne() {
        Finder x = Finder.of(0, 4, "abcdef", "bcdefg");
        due("both go", x.mode(0, 4), 2);
        due("counts", x.counts(), "0 0 0 0 0 0 0 16 4 1 2 0 4");
        due("no shingle", x.letter(0, 0), NONE);
        due("a document", x.addText("defg"), 0);
        due("its shingle", x.shingles(0), "0");
    }

    @Says("Another MODE: all DOCUMENTS and SHINGLES go")
    private static void promise6_allGo() {
        Finder x = Finder.ofSigns("abcd", "abce");
        due("a family", x.pairRow(2), "0");
        x.mode(0, 2);
        due("counts", x.counts(), "0 0 0 0 0 0 0 16 4 1 2 0 2");
        due("pairs", x.pairCounts(), "0 0 0 0");
        due("document", x.document(0, 0), Finder.NO_SUCH);
        due("nearest", x.nearest(1, 0), Finder.NO_SUCH);
        due("signature", x.signature(1, 0), Finder.NO_SUCH);
        due("letter", x.letter(0, 0), NONE);
    }

    @Says("numbers begin anew")
    private static void promise6_numbersBeginAnew() {
        Finder x = Finder.ofSigns("tape", "eat", "xyz");
        x.mode(0, 1);
        due("the first document", x.addText("eat"), 0);
        due("its shingles", x.shingles(0), "0 1 2");
        due("the first shingle", x.spelled(0), "e");
        due("the second document", x.addText("tap"), 1);
        due("its shingles", x.shingles(1), "1 2 3");
        due("with the first", x.boths(0, 1), "2 4 0 -1 0");
        due("that came", x.count(3), 2);
    }

    @Says("numbers begin anew (of the same text too)")
    private static void promise6_sameTextBeginsAnew() {
        Finder x = Finder.ofSigns("tape", "eat");
        x.mode(0, 1);
        due("it comes", x.addText("tape"), 0);
        due("its shingles", x.shingles(0), "0 1 2 3");
        due("their numbers", x.count(4), 4);
        due("the first", x.spelled(0), "t");
        due("the last", x.spelled(3), "e");
    }

    @Says("all DOCUMENTS go (as many may come again, each with its own SHINGLES)")
    private static void promise6_asManyMayComeAgain() {
        Finder x = Finder.of(1, 1);
        for (int d = 0; d < 48; d++) {
            x.add();
        }
        due("48 went", x.mode(1, 1), 48);
        for (int d = 0; d < 48; d++) {
            due("add " + d, x.addText(Texts.words(10 * d, 11)), d);
        }
        due("full", x.add(), NONE);
        for (int d = 0; d < 48; d++) {
            due(d + " with itself", x.both(d, d, 0), 11);
            due(d + " with the first", x.both(d, 0, 0), d == 0 ? 11 : d == 1 ? 1 : 0);
            due(d + " with the last", x.both(47, d, 0), d == 47 ? 11 : d == 46 ? 1 : 0);
        }
    }

    @Says("numbers begin anew (so 6000 and 50000 bytes may come)")
    private static void promise6_shinglesHaveRoomAnew() {
        Texts unlike = Texts.unlikeIn(8);
        Finder x = near6000(unlike);
        x.addText(unlike.next(456));
        due("all numbers are given", x.addText(unlike.next(8)), NONE);
        x.mode(0, 9);
        due("none is", x.count(4), 0);
        due("800 bytes", x.addText(unlike.next(800)), 0);
        due("their shingles", x.count(4), 792);
        due("their bytes", x.count(5), 7128);
    }

    @Says("all DOCUMENTS and SHINGLES go (nothing else does)")
    private static void promise6_theRestStays() {
        Finder x = Finder.ofSigns("abcd");
        x.tell(5, 7, 8);
        x.exchange(3, 0, 9);
        x.bands(2, 3);
        x.threshold(3, 4);
        x.type("Tape .");
        x.mode(1, 1);
        due("counts", x.counts(), "6 4 0 0 0 0 1 2 3 3 4 1 1");
        due("told", x.image(5, 1), 15);
        due("exchanged", x.image(3, 0), 9);
        due("the tape", x.add(), 0);
        due("by the new mode", x.spelled(0), "tape");
        due("its image", x.signature(0, 3), 9);
    }

    // ---- promise 13

    @Says("Number i (from 0 on, rising) of the numbers of its SHINGLES")
    private static void promise13_rising() {
        Finder x = Finder.ofSigns("abcd", "dxbxd", "x", "ydcba");
        due("as they came", x.shingles(0), "0 1 2 3");
        due("old ones behind new ones in the text", x.shingles(1), "1 3 4");
        due("one", x.shingles(2), "4");
        due("all others", x.shingles(3), "0 1 2 3 5");
    }

    @Says("NONE if there is none such")
    private static void promise13_noneSuch() {
        Finder x = Finder.ofSigns("abc", "");
        int[] none = {-1, 3, 4, 800, LOWEST, HIGHEST};
        for (int i : none) {
            due("i " + i, x.shingle(0, i), NONE);
        }
        due("the last", x.shingle(0, 2), 2);
        due("of one that has none", x.shingle(1, 0), NONE);
        due("of one that has none", x.shingle(1, -1), NONE);
    }

    @Says("NoSuchElementException: it is not there")
    private static void promise13_notThere() {
        Finder x = Finder.ofSigns("abc", "abd");
        x.remove(0);
        int[] gone = {0, 2, -1, LOWEST, HIGHEST};
        for (int d : gone) {
            due("d " + d, x.shingle(d, 0), Finder.NO_SUCH);
            due("d " + d + ", i below 0", x.shingle(d, -1), Finder.NO_SUCH);
        }
        due("the other", x.shingles(1), "0 1 3");
    }

    @Says("A call that throws changes nothing")
    private static void promise13_refusedShingleChangesNothing() {
        Sentences.unchanged(x -> {
            x.shingle(1, 0);
            x.shingle(-1, 0);
            x.shingle(5, HIGHEST);
        });
    }

    @Says("the set of its SHINGLES (of one that came where another went)")
    private static void promise13_nothingOfOneThatWent() {
        Finder x = Finder.ofSigns("abcdefgh");
        x.remove(0);
        x.addText("hx");
        due("its own alone", x.shingles(1), "7 8");
    }

    // ---- promise 14

    @Says("Byte k of the SHINGLE with a number")
    private static void promise14_bytesOfAShingle() {
        Finder x = Finder.of(0, 4, "Ab 9z");
        due("first", x.letter(0, 0), (int) 'a');
        due("a blank", x.letter(0, 2), 32);
        due("last of the first", x.letter(0, 3), (int) '9');
        due("last of the last", x.letter(1, 3), (int) 'z');
        Finder words = Finder.of(1, 1, "a bcd ef");
        due("a", words.spelled(0), "a");
        due("bcd", words.spelled(1), "bcd");
        due("ef", words.spelled(2), "ef");
    }

    @Says("NONE if there is none such (byte)")
    private static void promise14_noSuchByte() {
        Finder x = Finder.of(1, 1, "abc de");
        int[] none = {-1, 3, 4, LOWEST, HIGHEST};
        for (int k : none) {
            due("k " + k, x.letter(0, k), NONE);
        }
        due("the next one's first is not this one's", x.letter(0, 3), NONE);
        due("the one before's last is not this one's", x.letter(1, -1), NONE);
        due("behind the last", x.letter(1, 2), NONE);
    }

    @Says("NONE if there is none such (number)")
    private static void promise14_noSuchNumber() {
        Finder x = new Finder();
        due("none yet", x.letter(0, 0), NONE);
        x.addText("abcde");
        int[] none = {-1, 2, 5999, 6000, 6001, LOWEST, HIGHEST};
        for (int number : none) {
            due("number " + number, x.letter(number, 0), NONE);
        }
        x.mode(0, 4);
        due("gone by another mode", x.letter(0, 0), NONE);
    }

    @Says("it has it for good (also when no text has it any more)")
    private static void promise14_ofNoTextAnyMore() {
        Finder x = Finder.of(0, 4, "Ab 9z");
        x.remove(0);
        due("0", x.spelled(0), "ab 9");
        due("1", x.spelled(1), "b 9z");
    }
}
