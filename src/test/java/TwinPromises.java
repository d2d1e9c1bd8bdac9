/** The sentences on bands, twins and families: promises 10, 11, 12 and 16 to 20, and what the terms say of these. */
public final class TwinPromises {
    private static final int NONE = Finder.NONE;
    private static final int LOWEST = Integer.MIN_VALUE;
    private static final int HIGHEST = Integer.MAX_VALUE;

    public static void main(String[] args) {
        Sentences.run(TwinPromises.class, 10, 11, 12, 16, 17, 18, 19, 20);
    }

    private static void due(String name, Object got, Object want) {
        Sentences.due(name, got, want);
    }

    /** Two documents, COMMON 3 of ALL 5, whose images are the same in these permutations alone. */
    private static Finder twoThatAgreeIn(int... permutations) {
        Finder x = Finder.ofSigns("abcd", "bcde");
        for (int j : permutations) {
            x.exchange(j, 0, 1);
        }
        return x;
    }

    // ---- promise 10

    @Says("b bands of r ROWS: true; b r at most 64")
    private static void promise10_taken() {
        Finder x = new Finder();
        int[][] some = {{1, 1}, {64, 1}, {1, 64}, {8, 8}, {32, 2}, {2, 32}, {7, 9}, {9, 7}, {21, 3}, {63, 1}};
        for (int[] one : some) {
            due("bands " + one[0] + " " + one[1], x.bands(one[0], one[1]), true);
            due("b", x.count(7), one[0]);
            due("r", x.count(8), one[1]);
        }
    }

    private static void notTaken(int[][] none) {
        Finder x = new Finder();
        x.bands(21, 3);
        for (int[] one : none) {
            due("bands " + one[0] + " " + one[1], x.bands(one[0], one[1]), false);
            due("b stays", x.count(7), 21);
            due("r stays", x.count(8), 3);
        }
    }

    @Says("false if one is below 1")
    private static void promise10_belowOne() {
        notTaken(new int[][] {{0, 1}, {1, 0}, {0, 0}, {-1, 1}, {1, -1}, {-1, -1}, {-8, -8}, {-4, 4}, {0, 65},
            {LOWEST, 1}, {1, LOWEST}, {LOWEST, LOWEST}});
    }

    @Says("false if .. they are more than 64")
    private static void promise10_moreThan64() {
        notTaken(new int[][] {{65, 1}, {1, 65}, {5, 13}, {13, 5}, {11, 6}, {33, 2}, {64, 64}, {64, 2}});
    }

    @Says("false if .. they are more than 64 (also where their product goes round)")
    private static void promise10_farMoreThan64() {
        notTaken(new int[][] {{65536, 65536}, {1 << 30, 4}, {4, 1 << 30}, {HIGHEST, 2}, {2, HIGHEST},
            {HIGHEST, HIGHEST}, {1 << 16, (1 << 16) + 1}, {LOWEST, 2}});
    }

    @Says("false (and all stays)")
    private static void promise10_refusedBandsChangeNothing() {
        Sentences.unchanged(x -> {
            x.bands(0, 1);
            x.bands(1, 0);
            x.bands(65, 1);
            x.bands(65536, 65536);
        });
    }

    @Says("band i has the PERMUTATIONS from i r to i r + r - 1")
    private static void promise10_rowsOfABand() {
        Finder first = twoThatAgreeIn(0, 1, 2);
        first.bands(21, 3);
        due("0 .. 2", first.both(0, 1, 3), 0);
        Finder second = twoThatAgreeIn(3, 4, 5);
        second.bands(21, 3);
        due("3 .. 5", second.both(0, 1, 3), 1);
        Finder across = twoThatAgreeIn(1, 2, 3, 4);
        across.bands(21, 3);
        due("1 .. 4 are parts of two", across.both(0, 1, 3), NONE);
        Finder last = twoThatAgreeIn(60, 61, 62);
        last.bands(21, 3);
        due("60 .. 62", last.both(0, 1, 3), 20);
        last.bands(20, 3);
        due("there is no band 20", last.both(0, 1, 3), NONE);
        Finder behind = twoThatAgreeIn(61, 62, 63);
        behind.bands(21, 3);
        due("63 is in no band", behind.both(0, 1, 3), NONE);
    }

    @Says("band i has the PERMUTATIONS from i r to i r + r - 1 (one row, or all 64)")
    private static void promise10_fewestAndMostRows() {
        Finder x = twoThatAgreeIn(63);
        x.bands(64, 1);
        due("the last of 64", x.both(0, 1, 3), 63);
        x.bands(63, 1);
        due("not of 63", x.both(0, 1, 3), NONE);
        x.bands(1, 64);
        due("not all rows agree", x.both(0, 1, 3), NONE);
        for (int j = 0; j < 63; j++) {
            x.exchange(j, 0, 1);
        }
        due("all rows agree", x.both(0, 1, 3), 0);
        x.exchange(30, 0, 1);
        due("all but one", x.both(0, 1, 3), NONE);
        x.bands(1, 1);
        due("the first alone", x.both(0, 1, 3), 0);
    }

    @Says("PAIRS, FAMILIES and TWINS (by the bands as they are now)")
    private static void promise10_pairsFollow() {
        Finder x = twoThatAgreeIn(2, 3);
        due("of 4 rows", x.pairCounts(), "0 0 0 2");
        x.bands(32, 2);
        due("of 2 rows", x.pairCounts(), "1 1 1 1");
        x.bands(1, 2);
        due("one band", x.pairCounts(), "0 0 0 2");
    }

    // ---- promise 11

    @Says("The THRESHOLD is p / q: true; 0 <= p <= q <= 10000, q at least 1")
    private static void promise11_taken() {
        Finder x = new Finder();
        int[][] some = {{0, 1}, {1, 1}, {0, 10000}, {1, 10000}, {9999, 10000}, {10000, 10000}, {2, 4}};
        for (int[] one : some) {
            due("threshold " + one[0] + " " + one[1], x.threshold(one[0], one[1]), true);
            due("p as it is told", x.count(9), one[0]);
            due("q as it is told", x.count(10), one[1]);
        }
    }

    private static void noThreshold(int[][] none) {
        Finder x = new Finder();
        x.threshold(2, 3);
        for (int[] one : none) {
            due("threshold " + one[0] + " " + one[1], x.threshold(one[0], one[1]), false);
            due("p stays", x.count(9), 2);
            due("q stays", x.count(10), 3);
        }
    }

    @Says("false, if they are not as told (p below 0)")
    private static void promise11_pBelowZero() {
        noThreshold(new int[][] {{-1, 1}, {-1, 10000}, {LOWEST, 5}, {-1, -1}, {LOWEST, LOWEST}});
    }

    @Says("false, if they are not as told (p above q)")
    private static void promise11_pAboveQ() {
        noThreshold(new int[][] {{2, 1}, {10000, 9999}, {10001, 10000}, {HIGHEST, 1}, {HIGHEST, 10000}});
    }

    @Says("false, if they are not as told (q below 1)")
    private static void promise11_qBelowOne() {
        noThreshold(new int[][] {{0, 0}, {1, 0}, {0, -1}, {-2, -1}, {0, LOWEST}});
    }

    @Says("false, if they are not as told (q above 10000)")
    private static void promise11_qAbove10000() {
        noThreshold(new int[][] {{0, 10001}, {1, 10001}, {10001, 10001}, {0, HIGHEST}, {HIGHEST, HIGHEST}});
    }

    @Says("false (and all stays)")
    private static void promise11_refusedThresholdChangesNothing() {
        Sentences.unchanged(x -> {
            x.threshold(-1, 1);
            x.threshold(2, 1);
            x.threshold(0, 0);
            x.threshold(0, 10001);
        });
    }

    @Says("TWINS, if .. COMMON / ALL is at least p / q (equal is enough, by exact fractions)")
    private static void promise11_atLeastByExactFractions() {
        Finder x = Finder.ofSigns("abc", "abcdefg", "a");
        int[][] enough = {{3, 7}, {4284, 9996}, {4285, 10000}, {0, 1}};
        for (int[] one : enough) {
            x.threshold(one[0], one[1]);
            due("3 / 7 is at least " + one[0] + " / " + one[1], x.both(0, 1, 4), 1);
        }
        int[][] tooMuch = {{4286, 10000}, {3, 6}, {4, 7}, {1, 1}, {4285, 9998}};
        for (int[] one : tooMuch) {
            x.threshold(one[0], one[1]);
            due("3 / 7 is below " + one[0] + " / " + one[1], x.both(0, 1, 4), 0);
        }
        x.threshold(3333, 9999);
        due("1 / 3 is 3333 / 9999", x.both(0, 2, 4), 1);
        x.threshold(3334, 10000);
        due("1 / 3 is below 3334 / 10000", x.both(0, 2, 4), 0);
    }

    @Says("COMMON / ALL is at least p / q (of the longest texts)")
    private static void promise11_ofManyShingles() {
        Finder x = Finder.of(0, 4);
        String text = Texts.unlikeIn(4).next(800);
        x.addTexts(text, text, text.substring(0, 799));
        x.threshold(10000, 10000);
        due("797 of 797", x.both(0, 1, 4), 1);
        due("796 of 797", x.both(0, 2, 4), 0);
        x.threshold(796, 797);
        due("796 of 797", x.both(0, 2, 4), 1);
        x.threshold(9988, 10000);
        due("796 of 797 is below 9988 / 10000", x.both(0, 2, 4), 0);
        x.threshold(9987, 10000);
        due("796 of 797 is above 9987 / 10000", x.both(0, 2, 4), 1);
    }

    @Says("They are TWINS, if they are CANDIDATES, and COMMON / ALL is at least p / q (0: all CANDIDATES, no others)")
    private static void promise11_zeroAndOne() {
        Finder x = Finder.ofSigns("abcdefgh", "a", "bcdefgh", "hgfedcba", "", "");
        x.threshold(0, 1);
        due("candidates", x.pairRow(0), "0-1 0-3 1-3");
        due("twins at 0", x.pairRow(1), "0-1 0-3 1-3");
        x.threshold(1, 1);
        due("twins at 1", x.pairRow(1), "0-3");
        due("7 of 8, no candidates", x.boths(0, 2), "7 8 0 -1 0");
    }

    // ---- promise 12

    @Says("Of DOCUMENT d: 0 how many SHINGLES it has")
    private static void promise12_howManyShingles() {
        Finder x = Finder.of(0, 4, "", "abc", "abcd", "abcdabcd", Texts.unlikeIn(4).next(800));
        due("empty", x.document(0, 0), 0);
        due("too short", x.document(1, 0), 0);
        due("one", x.document(2, 0), 1);
        due("each once", x.document(3, 0), 4);
        due("most", x.document(4, 0), 797);
    }

    /** All meet in 'a', the least image; near are only 0 - 2 - 4 - 1, each step 3 of 5, two steps 2 of 6. */
    private static Finder chain() {
        return Finder.ofSigns("aefg", "abcd", "abef", "a", "abce");
    }

    @Says("A FAMILY: all DOCUMENTS that one comes to from one by TWINS of TWINS; 1 its FAMILY")
    private static void promise12_familyByTwinsOfTwins() {
        Finder x = chain();
        due("no twins", x.both(0, 1, 4), 0);
        due("0", x.documents(0), "4 0 4 1");
        due("1", x.documents(1), "4 0 4 1");
        due("2", x.documents(2), "4 0 4 2");
        due("3, alone", x.documents(3), "1 3 1 0");
        due("4", x.documents(4), "4 0 4 2");
        x.remove(4);
        due("1, cut off", x.documents(1), "4 1 1 0");
        due("2, without it", x.documents(2), "4 0 2 1");
    }

    @Says("all DOCUMENTS that one comes to from one by TWINS of TWINS (in whatever order they came)")
    private static void promise12_familyInAnyOrder() {
        String[] chain = {"aefg", "abef", "abce", "abcd"};
        for (int order = 0; order < 256; order++) {
            int[] link = {order & 3, order >> 2 & 3, order >> 4 & 3, order >> 6};
            if ((1 << link[0] | 1 << link[1] | 1 << link[2] | 1 << link[3]) != 15) {
                continue;
            }
            Finder x = Finder.ofSigns("a", chain[link[0]], chain[link[1]], chain[link[2]], chain[link[3]]);
            for (int d = 1; d <= 4; d++) {
                int twins = link[d - 1] == 0 || link[d - 1] == 3 ? 1 : 2;
                due("document " + d + " of order " + order, x.documents(d), "4 1 4 " + twins);
            }
            due("families of order " + order, x.pairRow(3), "0 1");
        }
    }

    @Says("(with itself alone, too); 2 how many DOCUMENTS that has")
    private static void promise12_familyOfOne() {
        Finder x = Finder.ofSigns("abc", "", "xyz", "");
        due("no twins", x.documents(0), "3 0 1 0");
        due("no shingles", x.documents(1), "0 1 1 0");
        due("no twins", x.documents(2), "3 2 1 0");
        due("no shingles, as another has none", x.documents(3), "0 3 1 0");
    }

    @Says("it is told by its least number")
    private static void promise12_leastNumber() {
        Finder x = Finder.ofSigns("q", "abcd", "abce", "abcf");
        due("1", x.document(1, 1), 1);
        due("3", x.document(3, 1), 1);
        x.remove(1);
        due("2 then", x.document(2, 1), 2);
        due("3 then", x.document(3, 1), 2);
        x.remove(2);
        due("itself at last", x.document(3, 1), 3);
    }

    @Says("3 how many TWINS it has")
    private static void promise12_howManyTwins() {
        Finder x = new Finder();
        for (int d = 0; d < 48; d++) {
            x.addText("the same");
        }
        due("47 others", x.document(0, 3), 47);
        due("in a family of 48", x.documents(47), "5 0 48 47");
        x.threshold(1, 1);
        due("at 1 / 1", x.document(20, 3), 47);
        x.remove(20);
        due("one less", x.documents(47), "5 0 47 46");
    }

    @Says("NoSuchElementException: it is not there")
    private static void promise12_notThere() {
        Finder x = Finder.ofSigns("abc", "abd");
        x.remove(0);
        int[] gone = {0, 2, -1, LOWEST, HIGHEST};
        for (int d : gone) {
            due("d " + d, x.documents(d), "-1002 -1002 -1002 -1002");
            due("d " + d + ", another what", x.document(d, 4), Finder.NO_SUCH);
        }
        due("the other", x.documents(1), "3 1 1 0");
    }

    @Says("NoSuchElementException: .. or another what")
    private static void promise12_anotherWhat() {
        Finder x = Finder.ofSigns("abc");
        int[] others = {-1, 4, 5, LOWEST, HIGHEST};
        for (int what : others) {
            due("what " + what, x.document(0, what), Finder.NO_SUCH);
        }
    }

    @Says("A call that throws changes nothing")
    private static void promise12_refusedDocumentChangesNothing() {
        Sentences.unchanged(x -> {
            x.document(1, 0);
            x.document(-1, 1);
            x.document(0, 4);
            x.document(2, -1);
            x.document(HIGHEST, LOWEST);
        });
    }

    // ---- promise 16

    @Says("0 COMMON: how many SHINGLES both have; 1 ALL: how many one of them has, or both")
    private static void promise16_commonAndAll() {
        Finder x = Finder.ofSigns("abcd", "cdef", "xy", "", "dcba", "b");
        due("two", x.boths(0, 1), "2 6 0 -1 0");
        due("turned", x.boths(1, 0), "2 6 0 -1 0");
        due("nothing common", x.boths(0, 2), "0 6 0 -1 0");
        due("with none", x.boths(0, 3), "0 4 0 -1 0");
        due("none with one", x.boths(3, 0), "0 4 0 -1 0");
        due("the same", x.boths(0, 4), "4 4 64 0 1");
        due("a part", x.boths(0, 5), "1 4 0 -1 0");
    }

    @Says("COMMON and ALL (of the longest texts)")
    private static void promise16_ofManyShingles() {
        Texts unlike = Texts.unlikeIn(4);
        String first = unlike.next(800);
        Finder x = Finder.of(0, 4, first, unlike.next(800), first);
        due("none of 1594", x.boths(0, 1), "0 1594 0 -1 0");
        due("all of 797", x.boths(0, 2), "797 797 64 0 1");
    }

    @Says("2 in how many of the b r images their SIGNATURES are the same")
    private static void promise16_sameImages() {
        Finder x = twoThatAgreeIn(2, 3, 4, 5, 6, 8, 63);
        due("7 of 64", x.both(0, 1, 2), 7);
        x.bands(63, 1);
        due("6 of 63", x.both(0, 1, 2), 6);
        x.bands(3, 3);
        due("6 of 9", x.both(0, 1, 2), 6);
        x.bands(4, 2);
        due("5 of 8", x.both(0, 1, 2), 5);
        x.bands(2, 1);
        due("0 of 2", x.both(0, 1, 2), 0);
        x.bands(1, 3);
        due("1 of 3", x.both(0, 1, 2), 1);
    }

    @Says("3 the first band that makes them CANDIDATES (NONE: they are none)")
    private static void promise16_firstBand() {
        Finder x = twoThatAgreeIn(3, 4, 5, 6, 7, 12, 13, 14, 15);
        due("4 .. 7 before 12 .. 15", x.both(0, 1, 3), 1);
        x.exchange(4, 0, 1);
        due("12 .. 15", x.both(0, 1, 3), 3);
        x.exchange(15, 0, 1);
        due("no band has all", x.both(0, 1, 3), NONE);
        x.bands(64, 1);
        due("a band of one row", x.both(0, 1, 3), 3);
    }

    @Says("4 whether they are TWINS (1, 0)")
    private static void promise16_whetherTwins() {
        Finder x = Finder.ofSigns("abcd", "abef", "bcda", "bcde");
        due("2 of 6, candidates", x.boths(0, 1), "2 6 64 0 0");
        due("4 of 4, candidates", x.boths(0, 2), "4 4 64 0 1");
        due("3 of 5, no candidates", x.boths(0, 3), "3 5 0 -1 0");
        x.threshold(1, 3);
        due("2 of 6 at 1 / 3", x.both(0, 1, 4), 1);
        due("3 of 5 at 1 / 3", x.both(0, 3, 4), 0);
    }

    @Says("(One and itself: 3: 0, if it has SHINGLES; 4: 1 likewise.)")
    private static void promise16_oneAndItself() {
        Finder x = Finder.ofSigns("abcd", "");
        due("one", x.boths(0, 0), "4 4 64 0 1");
        x.threshold(1, 1);
        x.bands(3, 7);
        due("at 1 / 1, of 21 images", x.boths(0, 0), "4 4 21 0 1");
    }

    @Says("Two DOCUMENTS that have SHINGLES are CANDIDATES (so one without is no one's, nor its own)")
    private static void promise16_withoutShingles() {
        Finder x = Finder.ofSigns("abcd", "", "..");
        x.threshold(0, 1);
        due("with itself", x.boths(1, 1), "0 0 64 -1 0");
        due("both without", x.boths(1, 2), "0 0 64 -1 0");
        due("one without", x.boths(0, 1), "0 4 0 -1 0");
        due("turned", x.boths(1, 0), "0 4 0 -1 0");
        x.bands(1, 1);
        due("of one image", x.boths(1, 2), "0 0 1 -1 0");
    }

    @Says("NoSuchElementException: one is not there")
    private static void promise16_notThere() {
        Finder x = Finder.ofSigns("abc", "abd", "abe");
        x.remove(0);
        int[] gone = {0, 3, -1, LOWEST, HIGHEST};
        for (int d : gone) {
            due("first " + d, x.boths(d, 1), "-1002 -1002 -1002 -1002 -1002");
            due("second " + d, x.boths(2, d), "-1002 -1002 -1002 -1002 -1002");
            due("both " + d, x.both(d, d, 0), Finder.NO_SUCH);
        }
        due("the others", x.boths(1, 2), "2 4 64 0 1");
    }

    @Says("NoSuchElementException: .. or another what")
    private static void promise16_anotherWhat() {
        Finder x = Finder.ofSigns("abc", "abd");
        int[] others = {-1, 5, 6, LOWEST, HIGHEST};
        for (int what : others) {
            due("what " + what, x.both(0, 1, what), Finder.NO_SUCH);
            due("what " + what + " of one", x.both(1, 1, what), Finder.NO_SUCH);
        }
    }

    @Says("A call that throws changes nothing")
    private static void promise16_refusedBothChangesNothing() {
        Sentences.unchanged(x -> {
            x.both(1, 0, 0);
            x.both(0, 1, 4);
            x.both(0, 2, 5);
            x.both(0, 2, -1);
            x.both(LOWEST, HIGHEST, 0);
        });
    }

    @Says("COMMON (of one that came where another went)")
    private static void promise16_nothingOfOneThatWent() {
        Finder x = Finder.ofSigns("abcd", "abef", "cd");
        x.remove(0);
        x.addText("abefg");
        due("with the second", x.boths(1, 3), "4 5 64 0 1");
        due("with the third", x.boths(2, 3), "0 7 0 -1 0");
        due("with itself", x.boths(3, 3), "5 5 64 0 1");
    }

    // ---- promise 17

    private static Finder sixTexts() {
        return Finder.ofSigns("z", "abcd", "pqrs", "abce", "p", "pqrst");
    }

    @Says("How many PAIRS of two are CANDIDATES (sort 0), TWINS (1)")
    private static void promise17_candidatesAndTwins() {
        Finder x = sixTexts();
        due("candidates", x.pairs(0), 4);
        due("twins", x.pairs(1), 2);
        x.threshold(0, 1);
        due("twins at 0", x.pairs(1), 4);
        x.threshold(1, 1);
        due("twins at 1", x.pairs(1), 0);
        due("candidates at 1", x.pairs(0), 4);
    }

    @Says("FAMILIES with more than one DOCUMENT (2); all FAMILIES (3)")
    private static void promise17_families() {
        Finder x = sixTexts();
        due("with more than one", x.pairs(2), 2);
        due("all", x.pairs(3), 4);
        x.addTexts("", "");
        due("with more than one", x.pairs(2), 2);
        due("each without shingles is one", x.pairs(3), 6);
        x.threshold(1, 1);
        due("none with more than one", x.pairs(2), 0);
        due("each is one", x.pairs(3), 8);
    }

    @Says("How many (none are there)")
    private static void promise17_ofNone() {
        Finder x = new Finder();
        due("new", x.pairCounts(), "0 0 0 0");
        x.add();
        due("one empty", x.pairCounts(), "0 0 0 1");
        x.remove(0);
        due("gone", x.pairCounts(), "0 0 0 0");
        x.addText("abcd");
        due("one and itself are no pair", x.pairCounts(), "0 0 0 1");
    }

    @Says("How many PAIRS (of 48)")
    private static void promise17_mostPairs() {
        Finder x = new Finder();
        for (int d = 0; d < 48; d++) {
            x.addText("the same");
        }
        due("48 of a kind", x.pairCounts(), "1128 1128 1 1");
        x.remove(7);
        due("47 of a kind", x.pairCounts(), "1081 1081 1 1");
    }

    @Says("NONE for another sort")
    private static void promise17_anotherSort() {
        Finder x = sixTexts();
        int[] others = {-1, 4, 5, LOWEST, HIGHEST};
        for (int sort : others) {
            due("sort " + sort, x.pairs(sort), NONE);
        }
    }

    // ---- promise 18

    @Says("PAIRS are told with the lesser number first, in the order of these, then of the others")
    private static void promise18_orderOfPairs() {
        Finder x = sixTexts();
        due("candidates", x.pairRow(0), "1-3 2-4 2-5 4-5");
        due("twins", x.pairRow(1), "1-3 2-5");
        x.remove(2);
        x.addText("abcf");
        due("candidates after a change", x.pairRow(0), "1-3 1-6 3-6 4-5");
        due("twins after a change", x.pairRow(1), "1-3 1-6 3-6");
    }

    @Says("of FAMILY i (sort 2, 3, by their numbers) its number (what 0)")
    private static void promise18_families() {
        Finder x = sixTexts();
        due("with more than one", x.pairRow(2), "1 2");
        due("all", x.pairRow(3), "0 1 2 4");
        x.remove(1);
        due("with more than one", x.pairRow(2), "2");
        due("all, one by another number", x.pairRow(3), "0 2 3 4");
    }

    @Says("Of PAIR i (from 0 on) .. NONE if there is none such (i)")
    private static void promise18_noSuchPair() {
        Finder x = sixTexts();
        int[] behind = {4, 2, 2, 4};
        for (int sort = 0; sort < 4; sort++) {
            int[] none = {-1, behind[sort], behind[sort] + 1, 1128, LOWEST, HIGHEST};
            for (int i : none) {
                due("sort " + sort + ", i " + i, x.pair(sort, i, 0), NONE);
                due("sort " + sort + ", i " + i + ", what 1", x.pair(sort, i, 1), NONE);
            }
        }
        Finder empty = new Finder();
        for (int sort = 0; sort < 4; sort++) {
            due("of none", empty.pair(sort, 0, 0), NONE);
        }
    }

    @Says("the first (what 0) or second (1) DOCUMENT .. NONE if there is none such (what)")
    private static void promise18_anotherWhat() {
        Finder x = sixTexts();
        int[] others = {-1, 2, 3, LOWEST, HIGHEST};
        for (int sort = 0; sort < 4; sort++) {
            for (int what : others) {
                due("sort " + sort + ", what " + what, x.pair(sort, 0, what), NONE);
            }
        }
        due("a family has no second", x.pair(2, 0, 1), NONE);
        due("a family has no second", x.pair(3, 0, 1), NONE);
    }

    @Says("of a sort (0, 1) .. (sort 2, 3) .. NONE if there is none such (sort)")
    private static void promise18_anotherSort() {
        Finder x = sixTexts();
        int[] others = {-1, 4, 5, LOWEST, HIGHEST};
        for (int sort : others) {
            due("sort " + sort, x.pair(sort, 0, 0), NONE);
            due("sort " + sort + ", what 1", x.pair(sort, 0, 1), NONE);
        }
    }

    @Says("Of PAIR i (of 1128)")
    private static void promise18_mostPairs() {
        Finder x = new Finder();
        for (int d = 0; d < 48; d++) {
            x.addText("the same");
        }
        for (int sort = 0; sort < 2; sort++) {
            due("the first", x.pair(sort, 0, 0) + "-" + x.pair(sort, 0, 1), "0-1");
            due("the last of 0", x.pair(sort, 46, 0) + "-" + x.pair(sort, 46, 1), "0-47");
            due("the first of 1", x.pair(sort, 47, 0) + "-" + x.pair(sort, 47, 1), "1-2");
            due("the last", x.pair(sort, 1127, 0) + "-" + x.pair(sort, 1127, 1), "46-47");
            due("behind", x.pair(sort, 1128, 0), NONE);
        }
    }

    @Says("of FAMILY i (of 48)")
    private static void promise18_mostFamilies() {
        Finder x = new Finder();
        for (int d = 0; d < 48; d++) {
            x.add();
        }
        due("all alone", x.pairRow(3), Texts.numbers(0, 47));
        due("none with more", x.pairRow(2), "");
    }

    // ---- promise 19

    @Says("number i (from 0 on) of all others by COMMON / ALL with d, the greatest first, then by their numbers")
    private static void promise19_greatestFirst() {
        Finder x = Finder.ofSigns("abcdef", "", "cdefgh", "xyz", "ab", "abcdefghi", "fedcba", "def");
        // Of 0: 0/6, 4/8, 0/9, 2/6, 6/9, 6/6, 3/6.
        due("of 0", x.ranks(0), "6 5 2 7 4 1 3");
        due("of one with nothing common", x.ranks(3), "0 1 2 4 5 6 7");
        // Of 7: 3/6, 0/3, 3/6, 0/6, 0/5, 3/9, 3/6.
        due("of the last", x.ranks(7), "0 2 6 5 1 3 4");
    }

    @Says("by COMMON / ALL (exact fractions)")
    private static void promise19_exactFractions() {
        Finder x = Finder.of(1, 1);
        x.addText(Texts.words(0, 200));
        x.addText(Texts.words(98, 105));
        x.addText(Texts.words(100, 100));
        x.addText(Texts.words(99, 102));
        x.addText(Texts.words(99, 103));
        String[] fractions = {"102/203", "100/200", "101/201", "101/202"};
        for (int d = 1; d <= 4; d++) {
            due("with " + d, x.both(0, d, 0) + "/" + x.both(0, d, 1), fractions[d - 1]);
        }
        due("101/201, 102/203, then 100/200 and 101/202 by their numbers", x.ranks(0), "3 1 2 4");
    }

    @Says("by COMMON / ALL, the greatest first, then by their numbers (of one SHINGLE)")
    private static void promise19_ofOneShingle() {
        Finder x = Finder.ofSigns("p", "pq", "p", "", "q", "p", "qp");
        due("1/1, 1/1, 1/2, 1/2, 0/1, 0/2", x.ranks(0), "2 5 1 6 3 4");
        due("turned", x.ranks(5), "0 2 1 6 3 4");
        due("of the other", x.ranks(4), "1 6 0 2 3 5");
    }

    @Says("of all others (CANDIDATES or not)")
    private static void promise19_candidatesOrNot() {
        Finder x = Finder.ofSigns("abcdef", "bcdef", "a");
        due("candidates", x.pairRow(0), "0-2");
        due("the nearer is none", x.ranks(0), "1 2");
        x.threshold(1, 1);
        x.bands(1, 64);
        due("no twins", x.ranks(0), "1 2");
    }

    @Says("(0 / 0 is 0)")
    private static void promise19_nothingOfNothing() {
        Finder x = Finder.ofSigns("", "ab", "", "abc", "");
        due("of one without shingles", x.ranks(0), "1 2 3 4");
        due("of the last", x.ranks(4), "0 1 2 3");
        due("of one with", x.ranks(3), "1 0 2 4");
    }

    @Says("NONE if there is none such")
    private static void promise19_noneSuch() {
        Finder x = Finder.ofSigns("abc");
        due("no others", x.nearest(0, 0), NONE);
        x.addTexts("abd", "abe");
        int[] none = {-1, 2, 3, 48, LOWEST, HIGHEST};
        for (int i : none) {
            due("i " + i, x.nearest(0, i), NONE);
        }
        due("the last", x.nearest(0, 1), 2);
        x.remove(2);
        due("gone", x.nearest(0, 1), NONE);
    }

    @Says("number i of all others (47)")
    private static void promise19_mostOthers() {
        Finder x = new Finder();
        for (int d = 0; d < 48; d++) {
            x.add();
        }
        due("of the first", x.ranks(0), Texts.numbers(1, 47));
        due("of the last", x.ranks(47), Texts.numbers(0, 46));
    }

    @Says("NoSuchElementException: d is not there")
    private static void promise19_notThere() {
        Finder x = Finder.ofSigns("abc", "abd");
        x.remove(0);
        int[] gone = {0, 2, -1, LOWEST, HIGHEST};
        for (int d : gone) {
            due("d " + d, x.nearest(d, 0), Finder.NO_SUCH);
            due("d " + d + ", none such", x.nearest(d, -1), Finder.NO_SUCH);
        }
    }

    @Says("A call that throws changes nothing")
    private static void promise19_refusedNearestChangesNothing() {
        Sentences.unchanged(x -> {
            x.nearest(1, 0);
            x.nearest(-1, 0);
            x.nearest(4, 0);
            x.nearest(HIGHEST, LOWEST);
        });
    }

    // ---- promise 20

    @Says("How many bytes the tape has (0), would have, made PLAIN (1; it stays as it is)")
    private static void promise20_theTape() {
        Finder x = new Finder();
        x.type("..Some  TEXT!\n\n7");
        due("bytes", x.count(0), 16);
        due("made plain", x.count(1), 11);
        due("it stays", x.count(0), 16);
        due("made plain again", x.count(1), 11);
        due("cut", x.end(13), true);
        due("made plain", x.count(1), 9);
        x.end(3);
        due("one letter", x.count(1), 1);
        x.end(2);
        due("none", x.count(1), 0);
        x.end(0);
        due("of an empty tape", x.count(1), 0);
    }

    @Says("would have, made PLAIN (1) (of 800 bytes)")
    private static void promise20_aFullTape() {
        Finder x = new Finder();
        x.type("a".repeat(800));
        due("all stay", x.count(1), 800);
        x.end(0);
        x.type("A.".repeat(400));
        due("all but the last", x.count(1), 799);
        x.end(0);
        x.type(".".repeat(800));
        due("none", x.count(1), 0);
        due("bytes", x.count(0), 800);
    }

    @Says("DOCUMENTS there (2), that came (3)")
    private static void promise20_documents() {
        Finder x = Finder.ofSigns("a", "b", "");
        due("there", x.count(2), 3);
        due("came", x.count(3), 3);
        x.remove(1);
        due("there", x.count(2), 2);
        due("came", x.count(3), 3);
        x.mode(0, 1);
        due("there", x.count(2), 0);
        due("came", x.count(3), 0);
    }

    @Says("numbers of SHINGLES (4), bytes of these (5)")
    private static void promise20_shingles() {
        Finder x = Finder.of(1, 2, "one two three", "one two", "one");
        due("numbers", x.count(4), 2);
        due("bytes", x.count(5), 16);
        x.remove(0);
        x.remove(1);
        due("numbers", x.count(4), 2);
        due("bytes", x.count(5), 16);
    }

    @Says("exchanges kept (6), b (7), r (8), p (9), q (10), sort (11), k (12)")
    private static void promise20_whatIsTold() {
        Finder x = new Finder();
        x.mode(1, 9);
        x.exchange(1, 2, 3);
        x.exchange(1, 2, 2);
        x.bands(5, 6);
        x.threshold(7, 8);
        due("counts", x.counts(), "0 0 0 0 0 0 2 5 6 7 8 1 9");
        x.tell(1, 5, 5);
        due("exchanges", x.count(6), 0);
    }

    @Says("NONE for another what")
    private static void promise20_anotherWhat() {
        Finder x = Finder.withSomeOfAll();
        int[] others = {-1, 13, 14, LOWEST, HIGHEST};
        for (int what : others) {
            due("what " + what, x.count(what), NONE);
        }
    }
}
