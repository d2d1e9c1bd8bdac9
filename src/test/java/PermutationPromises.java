/** The sentences on permutations and signatures: promises 7, 8, 9 and 15, and what the terms say of these. */
public final class PermutationPromises {
    private static final int NONE = Finder.NONE;
    private static final int LOWEST = Integer.MIN_VALUE;
    private static final int HIGHEST = Integer.MAX_VALUE;
    private static final int[] NO_PERMUTATIONS = {-1, 64, 65, -64, LOWEST, HIGHEST};
    private static final int[] NO_NUMBERS = {-1, 65521, 65522, 65536, -65520, LOWEST, HIGHEST};

    public static void main(String[] args) {
        Sentences.run(PermutationPromises.class, 7, 8, 9, 15);
    }

    private static void due(String name, Object got, Object want) {
        Sentences.due(name, got, want);
    }

    // ---- promise 7

    @Says("PERMUTATION j is that of a and b: true; x goes to (A x + B)")
    private static void promise7_isThatOfAAndB() {
        Finder x = new Finder();
        due("tell", x.tell(5, 2, 3), true);
        due("of 0", x.image(5, 0), 3);
        due("of 10", x.image(5, 10), 23);
        due("the one before is as it was", x.image(4, 10), 10);
        due("the one behind is as it was", x.image(6, 10), 10);
        due("told anew", x.tell(5, 3, 0), true);
        due("it is that of the new a and b alone", x.image(5, 10), 30);
    }

    @Says("x goes to (A x + B) MOD 65521")
    private static void promise7_goesRound() {
        Finder x = new Finder();
        x.tell(0, 1, 1);
        due("65519 + 1", x.image(0, 65519), 65520);
        due("65520 + 1", x.image(0, 65520), 0);
        x.tell(0, 2, 0);
        due("2 times 32760", x.image(0, 32760), 65520);
        due("2 times 32761", x.image(0, 32761), 1);
        x.tell(0, 2, 1);
        due("2 times 32760 and 1", x.image(0, 32760), 0);
    }

    @Says("x goes to (A x + B) MOD 65521 (the products are larger than an int)")
    private static void promise7_largeProducts() {
        Finder x = new Finder();
        int[] factors = {32768, 40000, 46341, 65519, 65520};
        for (int a : factors) {
            x.tell(0, a, 65520);
            for (int of : new int[] {32768, 46341, 53687, 65519, 65520}) {
                due(a + " times " + of, x.image(0, of), (int) (((long) a * of + 65520) % 65521));
            }
        }
    }

    @Says("A (1 .. 65520) and B (0 .. 65520)")
    private static void promise7_leastAndGreatest() {
        Finder x = new Finder();
        due("first one, least", x.tell(0, 1, 0), true);
        due("of 65520", x.image(0, 65520), 65520);
        due("greatest a", x.tell(0, 65520, 0), true);
        due("of 1", x.image(0, 1), 65520);
        due("of 65520", x.image(0, 65520), 1);
        due("greatest b", x.tell(0, 1, 65520), true);
        due("of 0", x.image(0, 0), 65520);
        due("of 1", x.image(0, 1), 0);
        due("last one, greatest", x.tell(63, 65520, 65520), true);
        due("of 0", x.image(63, 0), 65520);
        due("of 65520", x.image(63, 65520), 0);
    }

    @Says("false, if there is none such")
    private static void promise7_noSuchPermutation() {
        Finder x = new Finder();
        for (int j : NO_PERMUTATIONS) {
            due("j " + j, x.tell(j, 2, 3), false);
        }
        due("the first stays", x.image(0, 1), 1);
        due("the last stays", x.image(63, 1), 1);
    }

    @Says("false, if .. a, b are not as told (a)")
    private static void promise7_noSuchA() {
        Finder x = new Finder();
        x.tell(0, 2, 3);
        due("0", x.tell(0, 0, 3), false);
        for (int a : NO_NUMBERS) {
            due("a " + a, x.tell(0, a, 3), false);
        }
        due("it stays", x.image(0, 10), 23);
    }

    @Says("false, if .. a, b are not as told (b)")
    private static void promise7_noSuchB() {
        Finder x = new Finder();
        x.tell(0, 2, 3);
        for (int b : NO_NUMBERS) {
            due("b " + b, x.tell(0, 2, b), false);
        }
        due("it stays", x.image(0, 10), 23);
    }

    @Says("false (and its exchanges stay)")
    private static void promise7_refusedTellChangesNothing() {
        Sentences.unchanged(x -> {
            x.tell(2, 0, 0);
            x.tell(2, 65521, 0);
            x.tell(2, 1, -1);
            x.tell(2, 1, 65521);
            x.tell(-1, 1, 0);
            x.tell(64, 1, 0);
        });
    }

    @Says("when one is told by A and B, its own are gone")
    private static void promise7_itsOwnExchangesAreGone() {
        Finder x = new Finder();
        x.exchange(2, 4, 5);
        x.exchange(2, 4, 6);
        x.exchange(3, 4, 5);
        x.exchange(1, 4, 5);
        due("tell", x.tell(2, 1, 0), true);
        due("two are gone", x.count(6), 2);
        for (int of = 4; of <= 6; of++) {
            due("as if there were none " + of, x.image(2, of), of);
        }
        due("the others' stay", x.image(3, 4), 5);
        due("the others' stay", x.image(1, 5), 4);
        x.tell(2, 1, 0);
        due("none are gone twice", x.count(6), 2);
        x.exchange(2, 6, 9);
        due("gone ones do not come back", x.image(2, 4), 4);
        due("a new one counts", x.image(2, 9), 6);
        due("three are kept", x.count(6), 3);
    }

    @Says("when one is told by A and B, its own are gone (and do not come back)")
    private static void promise7_goneExchangesDoNotComeBack() {
        int[] which = {0, 30, 63};
        for (int j : which) {
            Finder x = new Finder();
            for (int of = 4; of < 10; of += 2) {
                x.exchange(j, of, of + 1);
                x.exchange(31, of, of + 1);
            }
            x.tell(j, 1, 0);
            due("three are kept", x.exchange(j, 1, 2), 4);
            for (int of = 3; of < 11; of++) {
                due("of " + of + " in " + j, x.image(j, of), of);
                due("of " + of + " in another", x.image(31, of), of < 4 || of > 9 ? of : of ^ 1);
            }
            due("the new one", x.image(j, 1), 2);
        }
    }

    @Says("The SIGNATURE: for each PERMUTATION the least image (as it is told now)")
    private static void promise7_signaturesFollow() {
        Finder x = Finder.ofSigns("abc", "bcd", "");
        due("before", x.signature(1, 7), 1);
        x.tell(7, 65520, 2);
        due("2, 1, 0", x.signature(0, 7), 0);
        due("1, 0, 65520", x.signature(1, 7), 0);
        due("of none", x.signature(2, 7), 65521);
        x.tell(7, 1, 65518);
        due("65518, 65519, 65520", x.signature(0, 7), 65518);
        due("65519, 65520, 0", x.signature(1, 7), 0);
        due("of another", x.signature(1, 6), 1);
    }

    @Says("CANDIDATES, if there is a band of which all images in their SIGNATURES are the same (as told now)")
    private static void promise7_pairsFollow() {
        Finder x = Finder.ofSigns("abcd", "bcde");
        due("none", x.pairCounts(), "0 0 0 2");
        for (int j = 8; j < 12; j++) {
            x.tell(j, 1, 65520);
        }
        due("65520 of the first, 0 of the second", x.pairCounts(), "1 1 1 1");
        x.tell(11, 1, 0);
        due("none again", x.pairCounts(), "0 0 0 2");
    }

    // ---- promise 8

    @Says("In PERMUTATION j the images of x and y are exchanged")
    private static void promise8_imagesAreExchanged() {
        Finder x = new Finder();
        x.exchange(7, 1, 2);
        due("of x", x.image(7, 1), 2);
        due("of y", x.image(7, 2), 1);
        due("of others", x.image(7, 3), 3);
        due("in the one before", x.image(6, 1), 1);
        due("in the one behind", x.image(8, 1), 1);
        x.exchange(7, 2, 3);
        due("one after the other: 1", x.image(7, 1), 2);
        due("one after the other: 2", x.image(7, 2), 3);
        due("one after the other: 3", x.image(7, 3), 1);
        x.exchange(7, 3, 2);
        due("back: 2", x.image(7, 2), 1);
        due("back: 3", x.image(7, 3), 3);
    }

    @Says("In PERMUTATION j (in no other)")
    private static void promise8_inNoOther() {
        Finder x = new Finder();
        int[] apart = {1, 256, 4096, 16384, 32768};
        for (int j = 0; j < 64; j += 9) {
            x.exchange(j, 60000, 60001);
        }
        for (int j = 0; j < 64; j++) {
            due("of 60000 in " + j, x.image(j, 60000), j % 9 == 0 ? 60001 : 60000);
        }
        for (int j = 0; j < 64; j += 9) {
            for (int d : apart) {
                due("of " + (60000 - d) + " in " + j, x.image(j, 60000 - d), 60000 - d);
                due("of " + d + " in " + j, x.image(j, d), d);
            }
        }
        x.exchange(1, 5, 6);
        due("32768 below, in the next", x.image(1, 60000 - 32768), 60000 - 32768);
        due("32768 below, in the next", x.image(1, 60001 - 32768), 60001 - 32768);
    }

    @Says("the images of x and y are exchanged (of one told by A and B)")
    private static void promise8_ofAToldOne() {
        Finder x = new Finder();
        x.tell(5, 3, 1);
        x.exchange(5, 10, 20);
        due("of 10", x.image(5, 10), 61);
        due("of 20", x.image(5, 20), 31);
        due("of 30", x.image(5, 30), 91);
    }

    @Says("how many exchanges are kept now .. in all (of all PERMUTATIONS)")
    private static void promise8_howManyAreKept() {
        Finder x = new Finder();
        due("first", x.exchange(0, 1, 2), 1);
        due("of another", x.exchange(63, 1, 2), 2);
        due("back again is one more", x.exchange(0, 1, 2), 3);
        due("count", x.count(6), 3);
        x.tell(0, 1, 0);
        due("two are gone", x.exchange(7, 5, 6), 2);
    }

    @Says("(x and y may be one: kept, too.)")
    private static void promise8_xAndYMayBeOne() {
        Finder x = new Finder();
        due("of 5", x.exchange(0, 5, 5), 1);
        due("nothing moves", x.image(0, 5), 5);
        x.exchange(0, 5, 6);
        due("of an exchanged one", x.exchange(0, 5, 5), 3);
        due("nothing moves", x.image(0, 5), 6);
        x.tell(0, 1, 0);
        due("they are gone, too", x.count(6), 0);
    }

    @Says("of the numbers 0 .. 65520 (the least and the greatest)")
    private static void promise8_leastAndGreatest() {
        Finder x = new Finder();
        due("in the first", x.exchange(0, 0, 65520), 1);
        due("of 0", x.image(0, 0), 65520);
        due("of 65520", x.image(0, 65520), 0);
        due("in the last", x.exchange(63, 65520, 0), 2);
        due("of 0", x.image(63, 0), 65520);
        due("of 65520", x.image(63, 65520), 0);
        due("not in others", x.image(62, 65520), 65520);
    }

    @Says("NONE, and nothing happens, if there is none such")
    private static void promise8_noSuchPermutation() {
        Finder x = new Finder();
        for (int j : NO_PERMUTATIONS) {
            due("j " + j, x.exchange(j, 1, 2), NONE);
        }
        due("none is kept", x.count(6), 0);
        due("in the first", x.image(0, 1), 1);
        due("in the last", x.image(63, 1), 1);
    }

    @Says("NONE, and nothing happens, if .. x or y is not 0 .. 65520")
    private static void promise8_noSuchNumber() {
        Finder x = new Finder();
        for (int no : NO_NUMBERS) {
            due("x " + no, x.exchange(0, no, 2), NONE);
            due("y " + no, x.exchange(0, 2, no), NONE);
            due("both " + no, x.exchange(0, no, no), NONE);
        }
        due("none is kept", x.count(6), 0);
        due("nothing moved", x.image(0, 2), 2);
    }

    @Says("At most 300 exchanges are kept in all; NONE, and nothing happens, if .. 300 are kept")
    private static void promise8_threeHundred() {
        Finder x = new Finder();
        for (int i = 0; i < 300; i++) {
            due("exchange " + i, x.exchange(i % 64, i, 65520 - i), i + 1);
        }
        due("a 301st", x.exchange(0, 1, 2), NONE);
        due("of one with itself", x.exchange(0, 1, 1), NONE);
        due("in any other", x.exchange(63, 5, 6), NONE);
        due("nothing happens", x.image(0, 1), 1);
        due("nothing happens", x.image(63, 5), 5);
        due("300 are kept", x.count(6), 300);
        for (int i = 0; i < 300; i += 7) {
            due("of " + i, x.image(i % 64, i), 65520 - i);
            due("of the other", x.image(i % 64, 65520 - i), i);
        }
    }

    @Says("At most 300 exchanges are kept (all of one PERMUTATION)")
    private static void promise8_threeHundredOfOne() {
        Finder x = new Finder();
        for (int i = 0; i < 300; i++) {
            due("exchange " + i, x.exchange(9, 65520 - i, i), i + 1);
        }
        due("a 301st", x.exchange(9, 1000, 1001), NONE);
        due("of another", x.exchange(10, 0, 1), NONE);
        for (int i = 0; i < 300; i += 3) {
            due("of " + i, x.image(9, i), 65520 - i);
        }
        due("one that none moved", x.image(9, 300), 300);
        due("one that none moved", x.image(9, 65220), 65220);
        x.tell(9, 1, 0);
        due("all are gone", x.count(6), 0);
        due("there is room", x.exchange(9, 5, 6), 1);
    }

    @Says("At most 300 exchanges are kept (of 600 numbers)")
    private static void promise8_threeHundredOf600Numbers() {
        Finder x = new Finder();
        for (int i = 0; i < 300; i++) {
            x.exchange(63, 2 * i, 2 * i + 1);
        }
        for (int of = 0; of < 600; of += 7) {
            due("of " + of, x.image(63, of), of ^ 1);
        }
        due("the last", x.image(63, 599), 598);
        due("the next", x.image(63, 600), 600);
        due("the greatest", x.image(63, 65520), 65520);
        due("a 301st", x.exchange(63, 600, 601), NONE);
        due("it did not move", x.image(63, 601), 601);
    }

    @Says("At most 300 exchanges are kept (when some are gone, others may come)")
    private static void promise8_roomComesBack() {
        Finder x = new Finder();
        for (int i = 0; i < 299; i++) {
            x.exchange(i % 3, i, 65520 - i);
        }
        due("the last of 300", x.exchange(50, 1, 2), 300);
        due("no more", x.exchange(50, 1, 2), NONE);
        x.tell(50, 1, 0);
        due("one more", x.exchange(51, 1, 2), 300);
        due("no more", x.exchange(51, 1, 2), NONE);
        x.tell(1, 1, 0);
        due("a hundred are gone", x.count(6), 200);
        for (int i = 0; i < 299; i += 5) {
            due("those of others stay " + i, x.image(i % 3, i), i % 3 == 1 ? i : 65520 - i);
        }
    }

    @Says("NONE, and nothing happens")
    private static void promise8_refusedExchangeChangesNothing() {
        Sentences.unchanged(x -> {
            x.exchange(-1, 0, 1);
            x.exchange(64, 0, 1);
            x.exchange(2, -1, 1);
            x.exchange(2, 0, 65521);
            x.exchange(2, LOWEST, HIGHEST);
        });
    }

    @Says("The SIGNATURE: for each PERMUTATION the least image (as exchanged now)")
    private static void promise8_signaturesFollow() {
        Finder x = Finder.ofSigns("abc", "bcd", "");
        x.exchange(9, 0, 500);
        due("500, 1, 2", x.signature(0, 9), 1);
        x.exchange(9, 3, 500);
        due("1, 2, 0", x.signature(1, 9), 0);
        due("of none", x.signature(2, 9), 65521);
        due("of another", x.signature(0, 8), 0);
        x.addText("ad");
        due("of a later text", x.signature(3, 9), 0);
    }

    @Says("CANDIDATES, if there is a band of which all images in their SIGNATURES are the same (as exchanged now)")
    private static void promise8_pairsFollow() {
        Finder x = Finder.ofSigns("abcd", "bcde");
        x.bands(64, 1);
        due("none", x.pairCounts(), "0 0 0 2");
        x.exchange(40, 0, 1);
        due("0 of both", x.pairCounts(), "1 1 1 1");
        x.exchange(40, 0, 1);
        due("none again", x.pairCounts(), "0 0 0 2");
    }

    // ---- promise 9

    @Says("The image of x in PERMUTATION j")
    private static void promise9_image() {
        Finder x = new Finder();
        x.tell(4, 65519, 17);
        due("told", x.image(4, 65519), (int) ((65519L * 65519L + 17) % 65521));
        due("not told", x.image(5, 65519), 65519);
        x.exchange(4, 0, 65520);
        due("exchanged", x.image(4, 65520), 17);
        due("exchanged", x.image(4, 0), 19);
        due("not exchanged", x.image(4, 1), 15);
    }

    @Says("PERMUTATIONS of the numbers 0 .. 65520 (no image comes twice)")
    private static void promise9_noImageComesTwice() {
        Finder x = new Finder();
        x.tell(0, 321, 65500);
        for (int i = 0; i < 40; i++) {
            x.exchange(0, i % 7, 3 * i % 50);
        }
        java.util.Set<Integer> images = new java.util.TreeSet<>();
        java.util.Set<Integer> want = new java.util.TreeSet<>();
        for (int of = 0; of < 50; of++) {
            images.add(x.image(0, of));
            want.add((321 * of + 65500) % 65521);
        }
        due("the same images in another order", images, want);
    }

    @Says("NONE if there is none such (PERMUTATION)")
    private static void promise9_noSuchPermutation() {
        Finder x = new Finder();
        for (int j : NO_PERMUTATIONS) {
            due("j " + j, x.image(j, 0), NONE);
        }
        due("the first", x.image(0, 7), 7);
        due("the last", x.image(63, 7), 7);
    }

    @Says("NONE if there is none such (x)")
    private static void promise9_noSuchNumber() {
        Finder x = new Finder();
        x.exchange(1, 0, 65520);
        for (int no : NO_NUMBERS) {
            due("x " + no, x.image(0, no), NONE);
            due("x " + no + " of one with exchanges", x.image(1, no), NONE);
        }
        due("the least", x.image(0, 0), 0);
        due("the greatest", x.image(0, 65520), 65520);
    }

    // ---- promise 15

    @Says("for each PERMUTATION the least image of the numbers of its SHINGLES")
    private static void promise15_leastImages() {
        Finder x = Finder.ofSigns("abc", "cb");
        x.tell(1, 65520, 65520);
        x.tell(63, 65520, 1);
        for (int j = 0; j < 63; j++) {
            due("of 0, 1, 2 in " + j, x.signature(0, j), j == 1 ? 65518 : 0);
            due("of 1, 2 in " + j, x.signature(1, j), j == 1 ? 65518 : 1);
        }
        due("1, 0, 65520", x.signature(0, 63), 0);
        x.addText("c");
        due("65520 alone", x.signature(2, 63), 65520);
    }

    @Says("65521, if it has none")
    private static void promise15_ofNoShingles() {
        Finder x = Finder.of(0, 4, "", "abc", "...");
        x.tell(5, 7, 8);
        x.exchange(6, 0, 1);
        for (int d = 0; d < 3; d++) {
            for (int j = 0; j < 64; j++) {
                due("image " + j + " of " + d, x.signature(d, j), 65521);
            }
        }
    }

    @Says("for each PERMUTATION (of a DOCUMENT that comes when they are told)")
    private static void promise15_ofALaterText() {
        Finder x = Finder.ofSigns();
        x.tell(1, 65520, 65520);
        x.exchange(62, 0, 60000);
        x.addTexts("a", "ab");
        due("told", x.signature(0, 1), 65520);
        due("told", x.signature(1, 1), 65519);
        due("exchanged", x.signature(0, 62), 60000);
        due("exchanged", x.signature(1, 62), 1);
        x.mode(0, 1);
        x.addText("z");
        due("in another mode", x.signature(0, 62), 60000);
    }

    @Says("the least image (of 797 SHINGLES)")
    private static void promise15_ofMostShingles() {
        Finder x = Finder.of(0, 4);
        x.addText(Texts.unlikeIn(4).next(800));
        x.tell(0, 65520, 796);
        due("the last has it", x.signature(0, 0), 0);
        x.tell(0, 1, 100);
        due("the first has it", x.signature(0, 0), 100);
        x.tell(0, 1, 65520 - 300);
        due("one between has it", x.signature(0, 0), 0);
    }

    @Says("NoSuchElementException: it is not there")
    private static void promise15_notThere() {
        Finder x = Finder.ofSigns("abc", "abd");
        x.remove(0);
        int[] gone = {0, 2, -1, LOWEST, HIGHEST};
        for (int d : gone) {
            due("d " + d, x.signature(d, 0), Finder.NO_SUCH);
        }
        due("the other", x.signature(1, 0), 0);
    }

    @Says("NoSuchElementException: .. there is no such PERMUTATION")
    private static void promise15_noSuchPermutation() {
        Finder x = Finder.ofSigns("abc", "");
        for (int j : NO_PERMUTATIONS) {
            due("j " + j, x.signature(0, j), Finder.NO_SUCH);
            due("j " + j + " of none", x.signature(1, j), Finder.NO_SUCH);
        }
        due("the last", x.signature(0, 63), 0);
    }

    @Says("A call that throws changes nothing")
    private static void promise15_refusedSignatureChangesNothing() {
        Sentences.unchanged(x -> {
            x.signature(1, 0);
            x.signature(-1, 0);
            x.signature(0, 64);
            x.signature(0, -1);
            x.signature(HIGHEST, LOWEST);
        });
    }
}
