/** Promises 3 to 5 and WORDS, sentence by sentence, at their boundaries. */
public final class TableEdgesTest {
    public static void main(String[] args) {
        aWordOfEachLength();
        countsUpTo255();
        theFirstWordIsAllZeros();
        furtherWords();
        allOnesOfEachLength();
        moreThanAllOnes();
        asManySymbols();
        noneTwice();
        symbols0And255();
        howManySymbolsAtOnce();
        atMost256Symbols();
        higherBytesAreNotLookedAt();
        countsTakeSymbolsAway();
        tables0To7();
        emptyDrafts();
        aTableIsReplacedWhole();
        aTableIsNotTheDraft();
        Kit.done();
    }

    /** The direct table's word for a size, as it is written with the coefficient -1024 or one whose bits are 0s. */
    private static String written(ScanCoder x, int t, int size) {
        x.tables(0, t, 4);
        x.scan(1, 0, 0, 0, 0);
        Kit.yes("set", x.set(0, 0, 0, Math.max(-1024, 1 - (1 << size))));
        return x.write() < 0 ? "none" : Kit.dump(x);
    }

    private static String due(String word, int size) {
        return Kit.pack(word + (size == 11 ? "01111111111" : Kit.repeat("0", size)));
    }

    private static void word(String what, ScanCoder x, int size, String word) {
        Kit.sameText(what, written(x, 0, size), due(word, size));
    }

    /** "byte k (the lowest is 0) of low is that of k + 1 bits, of high that of k + 9" */
    private static void aWordOfEachLength() {
        for (int k = 0; k < 8; k++) {
            ScanCoder x = new ScanCoder();
            x.counts(1L << 8 * k, 0);
            x.symbols(0, 1);
            Kit.yes("make", x.make(0));
            word("byte " + k + " of low", x, 0, Kit.repeat("0", k + 1));
            x.counts(0, 1L << 8 * k);
            x.symbols(0, 1);
            Kit.yes("make", x.make(0));
            word("byte " + k + " of high", x, 0, Kit.repeat("0", k + 9));
        }
    }

    /** A byte is 0 .. 255, in the highest place of a long, too. */
    private static void countsUpTo255() {
        for (int length = 8; length <= 16; length++) {
            for (int count = 127; count <= 255; count += 64) {
                ScanCoder x = new ScanCoder();
                String what = count + " words of " + length + " bits";
                Kit.yes(what, Kit.table(x, 0, Kit.only(length, count), Kit.upTo(count)));
                Kit.same(what, x.look(5), count);
                word("the twelfth of " + what, x, 11, Kit.binary(11, length));
            }
        }
    }

    /** "the first word is as many 0s as its length says" */
    private static void theFirstWordIsAllZeros() {
        for (int length = 1; length <= 16; length++) {
            int[] counts = new int[16];
            for (int longer = length; longer <= 16; longer++) {
                counts[longer - 1] = 1;
            }
            ScanCoder x = new ScanCoder();
            int[] symbols = Kit.upTo(17 - length);
            Kit.yes("make", Kit.table(x, 0, counts, symbols));
            word("the first, of " + length, x, 0, Kit.repeat("0", length));
            if (length < 16) {
                word("the next one", x, 1, Kit.repeat("0", length - 1) + "10");
            }
        }
    }

    /** "each further one is the one before, as a number, plus 1, with as many 0s behind it as it is longer" */
    private static void furtherWords() {
        for (int from = 1; from <= 15; from++) {
            // 0, 10 and 11 would be too many.
            for (int to = from == 1 ? 3 : from + 1; to <= 16; to++) {
                int[] counts = new int[16];
                counts[from - 1] = 1;
                counts[to - 1] = 2;
                ScanCoder x = new ScanCoder();
                Kit.yes("make", Kit.table(x, 0, counts, 3, 0, 2));
                String second = Kit.repeat("0", from - 1) + "1" + Kit.repeat("0", to - from);
                word(from + " bits", x, 3, Kit.repeat("0", from));
                word(from + " to " + to + " bits", x, 0, second);
                word("one more", x, 2, second.substring(0, to - 1) + "1");
            }
        }
    }

    /** "none may be all 1s": at each length the last word that may be, and the next one. */
    private static void allOnesOfEachLength() {
        for (int length = 1; length <= 16; length++) {
            int[] counts = new int[16];
            for (int shorter = 1; shorter <= length; shorter++) {
                counts[shorter - 1] = 1;
            }
            ScanCoder x = new ScanCoder();
            int[] symbols = new int[length];
            for (int i = 0; i < length; i++) {
                symbols[i] = length - 1 - i;
            }
            Kit.yes("1s and a 0, " + length, Kit.table(x, 0, counts, symbols));
            word("1s and a 0, " + length, x, 0, Kit.repeat("1", length - 1) + "0");
            counts[length - 1] = 2;
            Kit.no("all 1s, " + length, Kit.table(x, 0, counts, Kit.upTo(length + 1)));
            word("as before", x, 0, Kit.repeat("1", length - 1) + "0");
        }
        for (int length = 1; length <= 7; length++) {
            ScanCoder x = new ScanCoder();
            int most = (1 << length) - 1;
            Kit.yes("all but the last of " + length, Kit.table(x, 0, Kit.only(length, most), Kit.upTo(most)));
            Kit.no("all of " + length, Kit.table(x, 0, Kit.only(length, most + 1), Kit.upTo(most + 1)));
            Kit.same("as before", x.look(5), most);
        }
    }

    /** "or more than that": also where a longer word comes behind, or the number would not fit any length. */
    private static void moreThanAllOnes() {
        for (int length = 1; length <= 7; length++) {
            ScanCoder x = new ScanCoder();
            int many = (1 << length) + 1;
            Kit.no("one beyond all 1s of " + length, Kit.table(x, 0, Kit.only(length, many), Kit.upTo(many)));
            int[] counts = Kit.only(length, many);
            counts[15] = 1;
            Kit.no("and one of sixteen", Kit.table(x, 0, counts, Kit.upTo(many + 1)));
            counts[length - 1] = many - 1;
            Kit.no("all 1s, and one of sixteen", Kit.table(x, 0, counts, Kit.upTo(many)));
            counts[length - 1] = many - 2;
            Kit.yes("just below, and one of sixteen", Kit.table(x, 0, counts, Kit.upTo(many - 1)));
            Kit.same("words", x.look(5), many - 1);
        }
        ScanCoder x = new ScanCoder();
        Kit.no("255 words of one bit", Kit.table(x, 0, Kit.only(1, 255), Kit.upTo(255)));
        int[] counts = Kit.only(1, 255);
        counts[15] = 1;
        Kit.no("255 words of one bit, one of sixteen", Kit.table(x, 0, counts, Kit.upTo(256)));
        Kit.same("no words", x.look(5), 0);
    }

    /** "and as many symbols" */
    private static void asManySymbols() {
        int[] counts = {0, 1, 1, 0, 3};
        for (int many = 0; many <= 9; many++) {
            ScanCoder x = new ScanCoder();
            Kit.same(many + " symbols for 5 words", Kit.table(x, 0, counts, Kit.upTo(many)) ? 1 : 0, many == 5 ? 1 : 0);
            Kit.same("words", x.look(5), many == 5 ? 5 : 0);
        }
        ScanCoder x = new ScanCoder();
        int[] many = Kit.only(9, 255);
        many[9] = 1;
        Kit.no("255 symbols for 256 words", Kit.table(x, 0, many, Kit.upTo(255)));
        Kit.yes("the last one comes", x.symbols(255, 1));
        Kit.yes("256 symbols for 256 words", x.make(0));
        many[9] = 2;
        Kit.no("256 symbols for 257 words", Kit.table(x, 1, many, Kit.upTo(256)));
        Kit.no("all counts 255", Kit.table(x, 1, new int[] {255, 255, 255, 255, 255, 255, 255, 255, 255, 255, 255, 255,
            255, 255, 255, 255}, Kit.upTo(256)));
        Kit.same("words", x.look(5), 256);
    }

    /** "none twice" */
    private static void noneTwice() {
        ScanCoder x = new ScanCoder();
        int[] counts = {0, 0, 0, 12};
        for (int first = 0; first < 12; first++) {
            for (int second = first + 1; second < 12; second++) {
                int[] symbols = Kit.upTo(12);
                symbols[second] = symbols[first];
                x = new ScanCoder();
                Kit.no("symbol " + first + " again", Kit.table(x, 0, counts, symbols));
                Kit.same("no words", x.look(5), 0);
            }
        }
        int[] all = Kit.upTo(256);
        all[255] = 0;
        int[] many = Kit.only(16, 255);
        many[14] = 1;
        Kit.no("the first again as the last of 256", Kit.table(x, 0, many, all));
        all[255] = 255;
        Kit.yes("255 as the last of 256", Kit.table(x, 0, many, all));
        Kit.yes("the same symbols in another table", Kit.table(x, 1, many, all));
        Kit.same("words", x.look(5), 512);
    }

    /** "a SYMBOL 0 .. 255" */
    private static void symbols0And255() {
        ScanCoder x = new ScanCoder();
        x.counts(2L << 8, 0);
        Kit.yes("symbols", x.symbols(0xFF00L, 2));
        Kit.yes("make", x.make(0));
        word("0 is the second", x, 0, "01");
        x.scan(1, 0, 0, 0, 0);
        Kit.reads("255 is the first, and none that can be there", x, Kit.pack("00"), 3);
        Kit.reads("there is no third", x, Kit.pack("10"), 2);
    }

    /** "n symbols, 1 .. 8 .. false if n is not so" */
    private static void howManySymbolsAtOnce() {
        for (int n = -3; n <= 12; n++) {
            ScanCoder x = new ScanCoder();
            boolean can = n >= 1 && n <= 8;
            x.counts(can ? (long) n << 24 : 0, 0);
            Kit.same("n " + n, x.symbols(0x0706050403020100L, n) ? 1 : 0, can ? 1 : 0);
            Kit.yes("so many are there", x.make(0));
            Kit.same("words", x.look(5), can ? n : 0);
            for (int i = 0; i < n && can; i++) {
                word("the highest of the lowest " + n + " first", x, n - 1 - i, Kit.binary(i, 4));
            }
        }
    }

    /** "or there would be more than 256": for each n, just 256 and one more. */
    private static void atMost256Symbols() {
        for (int n = 1; n <= 8; n++) {
            for (int have = 256 - n; have <= 257 - n; have++) {
                ScanCoder x = new ScanCoder();
                Kit.draft(x, new int[] {1}, Kit.upTo(have));
                boolean can = have + n <= 256;
                Kit.same(have + " and " + n, x.symbols(0, n) ? 1 : 0, can ? 1 : 0);
                int room = 256 - (can ? have + n : have);
                for (int i = 0; i < room; i++) {
                    Kit.yes("there is room", x.symbols(0, 1));
                }
                Kit.no("there is none", x.symbols(0, 1));
            }
        }
    }

    private static void higherBytesAreNotLookedAt() {
        for (int n = 1; n <= 8; n++) {
            ScanCoder x = new ScanCoder();
            x.counts((long) n << 24, 0);
            long mask = n == 8 ? 0 : -1L << 8 * n;
            Kit.yes("symbols", x.symbols(0x0706050403020100L & ~mask | mask, n));
            Kit.yes("make", x.make(0));
            word("the first of " + n, x, n - 1, "0000");
        }
        ScanCoder x = new ScanCoder();
        Kit.draft(x, new int[] {0, 3});
        Kit.yes("bytes above 127", x.symbols(0x80FF00L, 3));
        Kit.yes("make", x.make(0));
        word("0 is the third", x, 0, "10");
    }

    /** "The DRAFT of a table has these COUNTS, and no symbols" */
    private static void countsTakeSymbolsAway() {
        ScanCoder x = new ScanCoder();
        Kit.draft(x, new int[] {0, 0, 0, 2}, 5, 6);
        x.counts(2L << 24, 0);
        Kit.no("the symbols are gone", x.make(0));
        Kit.yes("others come", x.symbols(0x0607, 2));
        Kit.yes("make", x.make(0));
        word("the first is the first that came then", x, 6, "0000");
        word("the second", x, 7, "0001");
        Kit.sameText("the old one", written(x, 0, 5), "none");
        x.counts(0, 0);
        Kit.yes("all counts 0: no words", x.make(0));
        Kit.same("no words", x.look(5), 0);
        Kit.draft(x, new int[] {1}, Kit.upTo(256));
        x.counts(1, 0);
        Kit.yes("a full draft has room again", x.symbols(0, 8));
    }

    /** "There are TABLES 0 .. 7, without words at first"; "false if there is no such table" */
    private static void tables0To7() {
        ScanCoder x = new ScanCoder();
        for (int t = 0; t < 4; t++) {
            Kit.sameText("no words in " + t, written(x, t, 0), "none");
            x.tables(0, 0, 4 + t);
            x.scan(1, 1, 63, 0, 0);
            Kit.same("no words in " + (4 + t), x.write(), -1);
            Kit.same("no words in " + (4 + t), x.read(), 2);
        }
        Kit.draft(x, new int[] {0, 2}, 0, 1);
        for (int t = -3; t <= 11; t++) {
            Kit.same("table " + t, x.make(t) ? 1 : 0, t >= 0 && t <= 7 ? 1 : 0);
            Kit.same("words", x.look(5), 2 * Math.max(0, Math.min(8, t + 1)));
        }
        for (int t = 0; t < 4; t++) {
            Kit.sameText("words in " + t, written(x, t, 0), Kit.pack("00"));
            x.tables(0, 0, 4 + t);
            x.scan(1, 1, 63, 0, 0);
            Kit.same("words in " + (4 + t), x.write(), 1);
        }
        Kit.no("far above", x.make(Integer.MAX_VALUE));
        Kit.no("far below", x.make(Integer.MIN_VALUE));
    }

    /** No words and no symbols are as many: a table without words, as all are at first. */
    private static void emptyDrafts() {
        ScanCoder x = new ScanCoder();
        for (int t = 0; t < 8; t++) {
            Kit.yes("a new object's draft", x.make(t));
        }
        Kit.same("no words", x.look(5), 0);
        Kit.no("and none that is not there", x.make(8));
        Kit.yes("symbols without counts", x.symbols(1, 1));
        Kit.no("are too many", x.make(0));
        Kit.yes("words", Kit.table(x, 0, new int[] {1}, 0));
        x.counts(0, 0);
        Kit.yes("no words", x.make(0));
        Kit.same("the words are gone", x.look(5), 0);
        x.scan(1, 0, 0, 0, 0);
        Kit.same("none to read by", x.read(), 2);
        Kit.same("none to write by", x.write(), -1);
    }

    private static void aTableIsReplacedWhole() {
        ScanCoder x = new ScanCoder();
        Kit.yes("make", Kit.table(x, 0, Kit.only(4, 12), Kit.upTo(12)));
        Kit.yes("make", Kit.table(x, 0, new int[] {1, 1}, 11, 5));
        for (int s = 0; s < 12; s++) {
            String due = s == 11 ? due("0", 11) : s == 5 ? due("10", 5) : "none";
            Kit.sameText("symbol " + s, written(x, 0, s), due);
        }
        Kit.same("words", x.look(5), 2);
        Kit.reads("no word any more", x, "C0", 2);
    }

    private static void aTableIsNotTheDraft() {
        ScanCoder x = new ScanCoder();
        Kit.yes("make", Kit.table(x, 0, new int[] {0, 2}, 0, 1));
        Kit.yes("one more for the draft", x.symbols(2, 1));
        word("the table has its words", x, 1, "01");
        Kit.same("words", x.look(5), 2);
        x.counts(3L << 16, 0);
        x.symbols(0x020100L, 3);
        word("still", x, 1, "01");
        Kit.yes("make", x.make(1));
        word("still", x, 1, "01");
        Kit.sameText("and the other one its own", written(x, 1, 1), Kit.pack("001" + "0"));
        Kit.yes("a draft is there after it is made a table", x.make(2));
        Kit.sameText("and again", written(x, 2, 1), Kit.pack("001" + "0"));
    }
}
