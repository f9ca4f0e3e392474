/** Promise 12, READING and FAULTS, sentence by sentence, at their boundaries; a fault changes nothing. */
public final class ReadEdgesTest {
    private static final String D0 = Kit.direct(0);
    private static final String END = Kit.other(0);
    private static final String ZEROS16 = Kit.other(240);
    private static final Twins.Steps WHOLE = x -> x.scan(1, 0, 63, 0, 0);
    private static final Twins.Steps DIRECT = x -> x.scan(1, 0, 0, 0, 0);
    private static final Twins.Steps DIRECT_BIT = x -> x.scan(1, 0, 0, 1, 0);
    private static final Twins.Steps BAND = x -> x.scan(1, 1, 63, 0, 0);
    private static final Twins.Steps BAND_BIT = x -> x.scan(1, 1, 63, 1, 0);

    public static void main(String[] args) {
        noDataAtAll();
        oneBitTooFew();
        bitsUpToARestart();
        noWordBegins();
        noWordsInTheTable();
        longestWords();
        directSymbols();
        sizesOfOthers();
        sixteenTimesNInWhole();
        zerosBeyondLast();
        sixteenZerosBeyondLast();
        symbolsOfRefinements();
        noSuchZero();
        valuesOfDirectOnes();
        valuesOfOthers();
        runsBeyondTheEnd();
        runsBeyondARestart();
        whatFillsTheLastByte();
        behindTheEnd();
        theRestartDue();
        behind255();
        theFirstFaultOfSeveral();
        Kit.done();
    }

    /** Two blocks with coefficients, all words, a tally and a draft. */
    private static void prepare(ScanCoder x) {
        Kit.fillDirect(x, 0);
        Kit.fillOther(x, 4);
        x.frame(16, 8, 1, 0);
        x.set(0, 0, 0, 6);
        x.set(0, 0, 3, -4);
        x.set(0, 1, 0, -7);
        x.set(0, 1, 63, 1022);
        x.tally();
        Kit.draft(x, new int[] {0, 3}, 1, 2);
    }

    private static void fault(int fault, String what, Twins.Steps scan, String hex) {
        Twins.changesNothing(what, x -> {
            prepare(x);
            scan.on(x);
            Kit.load(x, hex);
        }, x -> Kit.same(what, x.read(), fault));
    }

    private static ScanCoder good(String what, Twins.Steps scan, String hex) {
        ScanCoder x = new ScanCoder();
        prepare(x);
        scan.on(x);
        Kit.reads(what, x, hex, 0);
        Kit.sameText(what + ", data stay", Kit.dump(x), hex);
        return x;
    }

    /** Whole bytes of bits; those that do not fill one are left out. */
    private static String cutOff(String bits) {
        return Kit.pack(bits.substring(0, bits.length() / 8 * 8));
    }

    /** Bits, and 0s up to a whole byte: the beginning of a word. */
    private static String withZeros(String bits) {
        return Kit.pack(bits + Kit.repeat("0", 7 - (bits.length() + 7) % 8));
    }

    /** Whole bytes of bits: nothing fills the last one. */
    private static String ending(String bits) {
        Kit.same("whole bytes", bits.length() % 8, 0);
        return Kit.pack(bits);
    }

    /** "1: the bits (up to a RESTART, or the end of the DATA) end where one is needed." */
    private static void noDataAtAll() {
        fault(1, "whole", WHOLE, "");
        fault(1, "direct", DIRECT, "");
        fault(1, "direct refinement", DIRECT_BIT, "");
        fault(1, "band", BAND, "");
        fault(1, "band refinement", BAND_BIT, "");
    }

    private static void oneBitTooFew() {
        fault(1, "within a direct word", DIRECT, ending(Kit.direct(1) + "1" + "000"));
        fault(1, "a direct number", DIRECT, ending(Kit.direct(5) + "1000"));
        good("a direct number, all of it", DIRECT, ending(D0 + Kit.direct(8) + "10000000"));
        fault(1, "within another word", WHOLE, ending(D0 + END + "000"));
        fault(1, "another number", BAND, ending(Kit.other(8) + "1000000"));
        fault(1, "a run's number", BAND, ending(Kit.other(128) + "1000000"));
        fault(1, "a sign", BAND_BIT, ending(Kit.other(128) + "0000000"));
        // Coefficients 3 of block 0 and 63 of block 1 have a bit each.
        String news = Kit.other(1) + "1" + Kit.other(1) + "0";
        fault(1, "a bit of an old one", BAND_BIT, ending(news + END + "1" + ZEROS16 + END));
        good("all bits of old ones", BAND_BIT, ending(news + Kit.other(16) + "0" + "11"));
        Twins.Steps nine = x -> {
            x.frame(64, 16, 1, 0);
            x.scan(1, 0, 0, 1, 0);
            x.restart(9);
        };
        fault(1, "eight bits for nine units", nine, "00FFD001");
        good("nine bits, then seven", nine, "007FFFD001");
    }

    /** Any RESTART ends the bits, due or not, with an INTERVAL or without. */
    private static void bitsUpToARestart() {
        for (int m = 0; m < 8; m++) {
            String restart = "FFD" + m;
            fault(1, "at once", DIRECT_BIT, restart);
            fault(1, "at once, more behind it", DIRECT_BIT, restart + "3F");
            fault(1, "within a number", DIRECT, ending(Kit.direct(5) + "1000") + restart + Kit.pack("1" + D0));
            fault(1, "with an interval", x -> {
                DIRECT.on(x);
                x.restart(1);
            }, ending(Kit.direct(5) + "1000") + restart + Kit.pack("1" + D0));
        }
    }

    /** "2: the bits that were taken, one by one, begin no word: ahead of taking another one" */
    private static void noWordBegins() {
        // 000, 001, 010 and 01100.
        Twins.Steps few = x -> {
            Kit.table(x, 0, new int[] {0, 0, 3, 0, 1}, 0, 1, 2, 3);
            x.frame(8, 8, 1, 0);
            x.scan(1, 0, 0, 0, 0);
        };
        good("000", few, Kit.pack("000"));
        good("01100", few, Kit.pack("01100" + "111"));
        fault(2, "1", few, Kit.pack("1"));
        fault(2, "0111", few, Kit.pack("0111"));
        fault(2, "01101", few, Kit.pack("01101"));
        // Seven bits of a number go ahead, so that there is just one bit left.
        Twins.Steps two = x -> {
            Kit.table(x, 0, new int[] {0, 0, 2}, 4, 0);
            x.scan(1, 0, 0, 0, 0);
        };
        fault(2, "1 is the last bit", two, ending("000" + "1111" + "1"));
        fault(1, "0 is the last bit", two, ending("000" + "1111" + "0"));
        fault(2, "1 is the last bit, then a wrong byte", two, ending("000" + "1111" + "1") + "FF01");
        fault(6, "0 is the last bit, then a wrong byte", two, ending("000" + "1111" + "0") + "FF01");
        fault(1, "0 is the last bit, then a restart", two, ending("000" + "1111" + "0") + "FFD0");
    }

    /** "(also when none has been taken, if the TABLE has no words)" */
    private static void noWordsInTheTable() {
        String[] data = {"", "FF", "FF01", "FFD0", "00", "FF00"};
        for (String hex : data) {
            fault(2, "direct, " + hex, x -> {
                x.tables(0, 3, 4);
                x.scan(1, 0, 0, 0, 0);
            }, hex);
            fault(2, "band, " + hex, x -> {
                x.tables(0, 0, 7);
                x.scan(1, 1, 63, 0, 0);
            }, hex);
            fault(2, "refinement, " + hex, x -> {
                x.tables(0, 0, 7);
                x.scan(1, 1, 63, 1, 0);
            }, hex);
            fault(2, "others of whole, " + hex, x -> x.tables(0, 0, 7), ending(Kit.direct(4) + "1111") + hex);
        }
        fault(1, "the direct one comes first", x -> x.tables(0, 0, 7), "");
        good("no table is needed", x -> {
            x.tables(0, 3, 7);
            x.scan(1, 0, 0, 1, 0);
        }, Kit.pack("11"));
    }

    /** Words of 1 .. 16 bits: sixteen bits are the most that are taken. */
    private static void longestWords() {
        Twins.Steps steps = x -> {
            int[] counts = new int[16];
            java.util.Arrays.fill(counts, 1);
            Kit.table(x, 0, counts, 20, 21, 22, 23, 24, 25, 26, 27, 28, 29, 30, 31, 32, 33, 1, 0);
            x.scan(1, 0, 0, 0, 0);
        };
        String longest = Kit.repeat("1", 15) + "0";
        good("sixteen bits", steps, Kit.pack(longest + longest));
        ScanCoder x = good("fifteen bits", steps, Kit.pack(Kit.repeat("1", 14) + "0" + "0" + longest));
        Kit.same("fifteen bits", x.get(0, 1, 0), -1);
        fault(2, "sixteen 1s", steps, Kit.pack(Kit.repeat("1", 16)));
        fault(2, "sixteen 1s, then a wrong byte", steps, Kit.pack(Kit.repeat("1", 16)) + "FF01");
        fault(2, "sixteen 1s behind a word", steps, Kit.pack(longest + Kit.repeat("1", 16)));
        fault(1, "eight 1s", steps, Kit.pack("11111111"));
        fault(6, "eight 1s, then a wrong byte", steps, Kit.pack("11111111") + "FF01");
        fault(3, "one bit", steps, Kit.pack("0"));
    }

    /** "3: a SYMBOL that can not be there: direct: above 11" */
    private static void directSymbols() {
        Twins.Steps all = x -> {
            Kit.fillOther(x, 1);
            x.frame(8, 8, 1, 0);
            x.tables(0, 1, 4);
            x.scan(1, 0, 0, 0, 0);
        };
        for (int s = 0; s <= 254; s += s < 20 ? 1 : 13) {
            String bits = Kit.other(s);
            if (s <= 10) {
                good("symbol " + s, all, Kit.pack(bits + Kit.repeat("1", s)));
            } else if (s > 11) {
                readsFault(3, "symbol " + s, all, Kit.pack(bits + Kit.repeat("1", s)));
                readsFault(3, "symbol " + s + ", bits are missing", all, cutOff(bits + "1111111"));
            }
        }
        readsFault(3, "symbol 255", all, Kit.pack("0111111110"));
        ScanCoder x = good("symbol 11", all, Kit.pack(Kit.other(11) + "01111111111"));
        Kit.same("symbol 11", x.get(0, 0, 0), -1024);
        readsFault(1, "symbol 11, bits are missing", all, cutOff(Kit.other(11) + "1111111"));
        fault(3, "symbol 12 changes nothing", x2 -> {
            Kit.table(x2, 0, new int[] {0, 2}, 12, 0);
            x2.scan(1, 0, 0, 0, 0);
        }, Kit.pack("01" + "00" + "111111111111"));
    }

    /** A fault without looking at all that could change: for many of the same kind. */
    private static void readsFault(int fault, String what, Twins.Steps scan, String hex) {
        ScanCoder x = new ScanCoder();
        prepare(x);
        scan.on(x);
        int others = x.look(4);
        Kit.reads(what, x, hex, fault);
        Kit.same(what + ", as before", x.look(4), others);
    }

    private static void one(ScanCoder x) {
        x.frame(8, 8, 1, 0);
    }

    /** "others: S above 10" */
    private static void sizesOfOthers() {
        Twins.Steps band = x -> {
            one(x);
            BAND.on(x);
        };
        for (int r = 0; r <= 15; r++) {
            for (int size = 1; size <= 15; size++) {
                int symbol = 16 * r + size;
                if (symbol == 255) {
                    continue;
                }
                String bits = Kit.other(symbol) + Kit.repeat("0", size);
                if (size <= 10) {
                    ScanCoder x = good("whole " + symbol, ReadEdgesTest::one, Kit.pack(D0 + bits + END));
                    Kit.same("whole " + symbol, x.get(0, 0, 1 + r), 1 - (1 << size));
                    x = good("band " + symbol, band, Kit.pack(bits + END));
                    Kit.same("band " + symbol, x.get(0, 0, 1 + r), 1 - (1 << size));
                    Kit.same("one alone", x.look(4), 1);
                } else {
                    readsFault(3, "whole " + symbol, ReadEdgesTest::one, Kit.pack(D0 + bits + END));
                    readsFault(3, "band " + symbol, band, Kit.pack(bits + END));
                    readsFault(3, "ahead of its bits", band, cutOff(Kit.other(symbol) + "1111111"));
                }
            }
        }
        fault(3, "S 11", BAND, Kit.pack(Kit.other(1) + "1" + Kit.other(11) + "00000000000" + END));
        fault(3, "S 11 in whole", WHOLE, Kit.pack(Kit.direct(1) + "1" + Kit.other(1) + "1" + Kit.other(11)));
        readsFault(3, "symbol 255", band, Kit.pack("0111111110" + "1111111111"));
    }

    /** "in WHOLE 16 * n with n 1 .. 14" */
    private static void sixteenTimesNInWhole() {
        for (int n = 0; n <= 15; n++) {
            String hex = Kit.pack(D0 + Kit.other(16 * n) + END + D0 + END);
            if (n >= 1 && n <= 14) {
                fault(3, "16 * " + n, WHOLE, hex);
                readsFault(3, "nothing behind it", WHOLE, cutOff(D0 + Kit.other(16 * n) + "111"));
            } else {
                good("16 * " + n, WHOLE, n == 0 ? Kit.pack(D0 + END + D0 + END) : hex);
            }
        }
    }

    /** "R goes beyond LAST", ahead of the bits behind the word. */
    private static void zerosBeyondLast() {
        int[] lasts = {1, 2, 15, 16, 17, 40, 63};
        for (int last : lasts) {
            for (int first = Math.max(1, last - 20); first <= last; first++) {
                int from = first;
                Twins.Steps band = x -> {
                    one(x);
                    x.scan(1, from, last, 0, 0);
                };
                for (int r = 0; r <= 15; r++) {
                    String bits = Kit.other(16 * r + 1) + "1";
                    String what = first + " .. " + last + ", " + r + " zeros";
                    if (first + r < last) {
                        good(what, band, Kit.pack(bits + END));
                    } else if (first + r == last) {
                        Kit.same(what, good(what, band, Kit.pack(bits)).get(0, 0, last), 1);
                    } else {
                        readsFault(3, what, band, Kit.pack(bits));
                    }
                }
            }
        }
        String to60 = Kit.repeat(ZEROS16, 3) + Kit.other(16 * 11 + 1) + "1";
        good("whole, 63", ReadEdgesTest::one, Kit.pack(D0 + to60 + Kit.other(33) + "1"));
        fault(3, "whole, 64", WHOLE, Kit.pack(D0 + to60 + Kit.other(49) + "1"));
        fault(3, "band, 64", BAND, Kit.pack(to60 + Kit.other(49) + "1"));
        // Coefficient 60, then 64: the bytes end within the bits of that one.
        fault(3, "ahead of its bits", BAND, cutOff(to60 + Kit.other(16 * 3 + 10) + "111111"));
    }

    /** "(for 240, the sixteenth of those, too"; "R goes beyond LAST") */
    private static void sixteenZerosBeyondLast() {
        for (int first = 1; first <= 63; first++) {
            int from = first;
            for (int last = first; last <= Math.min(63, first + 40); last++) {
                int to = last;
                Twins.Steps band = x -> {
                    one(x);
                    x.scan(1, from, to, 0, 0);
                };
                String what = "240 in " + first + " .. " + last;
                if (last == first + 15 || last == first + 31) {
                    good(what, band, Kit.pack(Kit.repeat(ZEROS16, (last - first + 1) / 16)));
                } else if (last < first + 15 && (first % 9 == 0 || last == first + 14)) {
                    readsFault(3, what, band, Kit.pack(ZEROS16));
                } else if (last == first + 16 || last == first + 30) {
                    readsFault(3, what, band, Kit.pack(ZEROS16 + ZEROS16));
                    good(what, band, Kit.pack(ZEROS16 + END));
                }
            }
        }
        fault(3, "64 in whole", WHOLE, Kit.pack(D0 + Kit.repeat(ZEROS16, 4)));
        good("63 in whole", ReadEdgesTest::one, Kit.pack(D0 + Kit.repeat(ZEROS16, 2) + Kit.other(225) + "1" + ZEROS16));
        fault(3, "a band's sixteenth", x -> x.scan(1, 5, 19, 0, 0), Kit.pack(ZEROS16 + END));
        good("a band's fifteenth and one more", x -> {
            one(x);
            x.scan(1, 5, 20, 0, 0);
        }, Kit.pack(ZEROS16));
    }

    /** "in a REFINEMENT above 1" */
    private static void symbolsOfRefinements() {
        Twins.Steps refinement = x -> {
            one(x);
            BAND_BIT.on(x);
        };
        for (int r = 0; r <= 15; r++) {
            ScanCoder x = good("S 1", refinement, Kit.pack(Kit.other(16 * r + 1) + "0" + END));
            Kit.same("S 1", x.get(0, 0, 1 + r), -1);
            for (int s = 2; s <= 15 && 16 * r + s < 255; s++) {
                readsFault(3, "symbol " + (16 * r + s), refinement, Kit.pack(Kit.other(16 * r + s) + "1" + END));
                readsFault(3, "ahead of a bit", refinement, cutOff(Kit.other(16 * r + s) + "1111111"));
            }
        }
        for (int n = 0; n <= 14; n++) {
            // A run of one or more: with one block all but the first go on beyond the end.
            String hex = Kit.pack(Kit.other(16 * n) + Kit.repeat("0", n));
            if (n == 0) {
                good("a run of one", refinement, hex);
            } else {
                readsFault(5, "a run of more", refinement, hex);
            }
        }
        good("240 and an end", refinement, Kit.pack(ZEROS16 + END));
        fault(3, "S 2 changes nothing", BAND_BIT, Kit.pack(Kit.other(1) + "1" + Kit.other(2) + "1"));
    }

    /** "in a REFINEMENT: there is no such 0 up to LAST, seen when all up to it have been gone over, with their bits" */
    private static void noSuchZero() {
        // Of 2 .. 8 the coefficients 4, 6, 8 are old.
        Twins.Steps old = x -> {
            one(x);
            for (int k = 4; k <= 8; k += 2) {
                x.set(0, 0, k, -2);
            }
            x.set(0, 0, 9, 2);
            x.scan(1, 2, 8, 1, 0);
        };
        ScanCoder x = good("the fourth 0", old, Kit.pack(Kit.other(49) + "1" + "11" + END + "1"));
        Kit.same("the fourth 0", x.get(0, 0, 7), 1);
        Kit.same("an old one", x.get(0, 0, 8), -3);
        Kit.same("an old one", x.get(0, 0, 4), -3);
        fault(3, "the fifth 0", old, Kit.pack(Kit.other(65) + "1" + "111"));
        fault(3, "sixteen", old, Kit.pack(ZEROS16 + "111"));
        fault(3, "a second one behind the last", old, Kit.pack(Kit.other(49) + "1" + "11" + Kit.other(1) + "1" + "1"));
        Twins.Steps more = y -> {
            old.on(y);
            y.set(0, 0, 3, 2);
            y.set(0, 0, 5, 2);
            y.set(0, 0, 7, 2);
        };
        // Six old ones, and 2 alone is 0: 9 + 1 + 6 bits.
        fault(3, "all bits are there", more, ending(Kit.other(17) + "1" + "000000"));
        fault(3, "all bits are there, then a wrong byte", more, ending(Kit.other(17) + "1" + "000000") + "FF01");
        Twins.Steps seven = y -> {
            more.on(y);
            y.set(0, 0, 2, 2);
        };
        fault(1, "one bit is missing", seven, ending(Kit.other(17) + "1" + "000000"));
        fault(1, "one bit is missing ahead of a restart", seven, ending(Kit.other(17) + "1" + "000000") + "FFD0");
        fault(6, "one bit is in a wrong byte", seven, ending(Kit.other(17) + "1" + "000000") + "FF01");
        fault(3, "all old, with their bits", seven, Kit.pack(Kit.other(1) + "1" + "0000000"));
        for (int zeros = 14; zeros <= 17; zeros++) {
            int last = zeros;
            Twins.Steps empty = y -> {
                one(y);
                y.scan(1, 1, last, 1, 0);
            };
            String what = "240 with " + zeros + " zeros";
            if (zeros < 16) {
                readsFault(3, what, empty, Kit.pack(ZEROS16));
            } else {
                good(what, empty, Kit.pack(ZEROS16 + (zeros > 16 ? END : "")));
            }
            if (zeros != 16) {
                readsFault(3, "as many zeros as there are", empty, Kit.pack((zeros > 16 ? ZEROS16 : "")
                        + Kit.other(16 * (zeros % 16) + 1) + "1"));
            }
        }
    }

    /** "4: a coefficient would be none that can be there": the direct one is -1024 .. 1023, behind its bits. */
    private static void valuesOfDirectOnes() {
        fault(4, "1024", DIRECT, Kit.pack(Kit.direct(11) + "10000000000" + D0));
        fault(4, "2047", DIRECT, Kit.pack(Kit.direct(11) + "11111111111" + D0));
        fault(4, "-1025", DIRECT, Kit.pack(Kit.direct(11) + "01111111110" + D0));
        fault(4, "-2047", DIRECT, Kit.pack(Kit.direct(11) + "00000000000" + D0));
        fault(4, "1023 and 1 more", DIRECT, Kit.pack(Kit.direct(10) + "1111111111" + Kit.direct(1) + "1"));
        fault(4, "-1024 and 1 less", DIRECT, Kit.pack(Kit.direct(11) + "01111111111" + Kit.direct(1) + "0"));
        fault(4, "whole", WHOLE, Kit.pack(Kit.direct(11) + "10000000000"));
        ScanCoder x = good("-1024 and 2047 more", DIRECT, Kit.pack(Kit.direct(11) + "01111111111" + Kit.direct(11)
                + "11111111111"));
        Kit.same("-1024", x.get(0, 0, 0), -1024);
        Kit.same("1023", x.get(0, 1, 0), 1023);
        fault(1, "not ahead of its last bit", DIRECT, ending(Kit.direct(2) + "10" + Kit.direct(11) + "100000"));
        for (int bits = 1; bits <= 9; bits++) {
            int low = bits;
            Twins.Steps shifted = y -> {
                one(y);
                y.scan(1, 0, 0, 0, low);
            };
            int size = 10 - bits;
            String most = Kit.direct(size) + Kit.repeat("1", size);
            String tooMany = Kit.direct(size + 1) + "1" + Kit.repeat("0", size);
            String least = Kit.direct(size + 1) + "0" + Kit.repeat("1", size);
            x = good("the most", shifted, Kit.pack(most));
            Kit.same("the most, shifted " + bits, x.get(0, 0, 0), 1024 - (1 << bits));
            x = good("the least", shifted, Kit.pack(least));
            Kit.same("the least, shifted " + bits, x.get(0, 0, 0), -1024);
            fault(4, "above the most", shifted, Kit.pack(tooMany));
            String below = Kit.direct(size + 1) + "0" + Kit.repeat("1", size - 1) + "0";
            fault(4, "below the least", shifted, Kit.pack(below));
        }
    }

    /** The others are -1023 .. 1023; with BITS 0 ten bits are never too many. */
    private static void valuesOfOthers() {
        ScanCoder x = good("1023 and -1023", BAND, Kit.pack(Kit.other(10) + "1111111111" + Kit.other(10) + "0000000000"
                + Kit.other(16) + "0"));
        Kit.same("1023", x.get(0, 0, 1), 1023);
        Kit.same("-1023", x.get(0, 0, 2), -1023);
        for (int bits = 1; bits <= 9; bits++) {
            int low = bits;
            Twins.Steps shifted = y -> {
                one(y);
                y.scan(1, 9, 10, 0, low);
            };
            int size = 10 - bits;
            int most = 1024 - (1 << bits);
            x = good("the most", shifted, Kit.pack(Kit.other(size) + Kit.repeat("1", size) + END));
            Kit.same("the most, shifted " + bits, x.get(0, 0, 9), most);
            x = good("the least", shifted, Kit.pack(Kit.other(size) + Kit.repeat("0", size) + END));
            Kit.same("the least, shifted " + bits, x.get(0, 0, 9), -most);
            fault(4, "1024", shifted, Kit.pack(Kit.other(size + 1) + "1" + Kit.repeat("0", size) + END));
            fault(4, "-1024", shifted, Kit.pack(Kit.other(size + 1) + "0" + Kit.repeat("1", size) + END));
        }
        fault(1, "not ahead of its last bit", y -> y.scan(1, 1, 63, 0, 9), ending(Kit.other(8) + "1000000"));
    }

    /** "5: a RUN goes on beyond a RESTART or the end" */
    private static void runsBeyondTheEnd() {
        for (int run = 1; run <= 5; run++) {
            int n = Integer.toBinaryString(run).length() - 1;
            String bits = Kit.other(16 * n) + Kit.binary(run, n);
            for (int kind = 0; kind < 2; kind++) {
                int before = kind;
                Twins.Steps three = x -> {
                    x.frame(24, 8, 1, 0);
                    x.scan(1, 1, 63, before, 0);
                };
                String what = "a run of " + run + ", of three";
                if (run < 3) {
                    readsFault(1, what, three, withZeros(bits));
                } else if (run == 3) {
                    good(what, three, Kit.pack(bits));
                } else {
                    fault(5, what, three, Kit.pack(bits));
                    fault(5, what + ", behind another one", three, Kit.pack(Kit.other(0) + bits));
                }
            }
        }
        fault(5, "the longest", BAND, Kit.pack(Kit.other(224) + "11111111111111"));
        fault(5, "two behind the first of two", BAND, Kit.pack(END + Kit.other(16) + "0"));
        fault(5, "within the last block", BAND, Kit.pack(END + Kit.other(1) + "1" + Kit.other(16) + "0"));
    }

    private static void runsBeyondARestart() {
        for (int kind = 0; kind < 2; kind++) {
            int before = kind;
            Twins.Steps restarts = x -> {
                x.frame(32, 8, 1, 0);
                x.scan(1, 1, 63, before, 0);
                x.restart(2);
            };
            String two = Kit.pack(Kit.other(16) + "0");
            String three = Kit.pack(Kit.other(16) + "1");
            good("two and two", restarts, two + "FFD0" + two);
            fault(5, "three and one", restarts, three + "FFD0" + Kit.pack(END));
            fault(5, "two and three", restarts, two + "FFD0" + three);
            fault(5, "four", restarts, Kit.pack(Kit.other(32) + "00"));
            readsFault(1, "one and two", restarts, withZeros(END) + "FFD0" + two);
        }
        // The bits of old ones are needed up to the RESTART, even if the run then goes on.
        Twins.Steps old = x -> {
            x.scan(1, 1, 63, 1, 0);
            x.set(0, 0, 3, 0);
            x.restart(1);
        };
        fault(5, "no bits are needed", old, ending(Kit.other(112) + "0000000"));
        fault(1, "a bit is needed first", x -> {
            old.on(x);
            x.set(0, 0, 9, 2);
        }, ending(Kit.other(112) + "0000000"));
    }

    /** "else what must be there (fewer than eight bits, all 1s, ..) is not" */
    private static void whatFillsTheLastByte() {
        for (int blocks = 1; blocks <= 8; blocks++) {
            int many = blocks;
            Twins.Steps steps = x -> {
                x.frame(8 * many, 8, 1, 0);
                x.scan(1, 0, 0, 1, 0);
            };
            int filled = (1 << 8 - blocks) - 1;
            good(blocks + " bits and 1s", steps, String.format("%02X", filled));
            for (int place = 0; place < 8 - blocks; place++) {
                fault(5, "a 0 at " + place, steps, String.format("%02X", filled - (1 << place)));
            }
            readsFault(5, "eight 1s more", steps, String.format("%02XFF00", filled));
            readsFault(5, "a byte more", steps, String.format("%02X7F", filled));
            good("1s, the last one 0", steps, String.format("%02X", 255 - (1 << 8 - blocks)));
            good("255 and 0", steps, "FF00");
            readsFault(5, "255, 0 and 0", steps, "FF0000");
        }
    }

    /** "or at the end nothing" */
    private static void behindTheEnd() {
        String bits = Kit.pack(Kit.direct(1) + "1" + Kit.direct(1) + "1");
        good("nothing", DIRECT, bits);
        for (String more : new String[] {"00", "FF", "FF00", "FFD0", "FFD7", "FFD9", "0F", "7F7F"}) {
            fault(5, "then " + more, DIRECT, bits + more);
            readsFault(5, "with an interval, then " + more, x -> {
                DIRECT.on(x);
                x.restart(2);
            }, bits + more);
        }
    }

    /** "then the RESTART due" */
    private static void theRestartDue() {
        Twins.Steps each = x -> {
            DIRECT_BIT.on(x);
            x.restart(1);
        };
        for (int second = 0; second < 256; second++) {
            String hex = "7FFF" + String.format("%02X", second) + "7F";
            if (second == 208) {
                good("255 and 208", each, hex);
            } else {
                readsFault(5, "255 and " + second, each, hex);
            }
        }
        for (int first = 0; first < 255; first += 5) {
            readsFault(5, first + " and 208", each, "7F" + String.format("%02X", first) + "D07F");
        }
        fault(5, "another one", each, "7FFFD17F");
        fault(5, "nothing", each, "7F");
        fault(5, "half of it", each, "7FFF");
        fault(5, "not all 1s ahead of it", each, "7EFFD07F");
        fault(5, "a byte ahead of it", each, "7FFF00FFD07F");
        fault(5, "twice at the end", each, "7FFFD07FFFD1");
        fault(1, "nothing behind it", each, "7FFFD0");
        restartsGoRound();
    }

    /** 0 comes behind 7. */
    private static void restartsGoRound() {
        for (int wrong = -1; wrong < 17; wrong++) {
            StringBuilder hex = new StringBuilder("7F");
            for (int i = 0; i < 17; i++) {
                hex.append("FFD").append(i == wrong ? (i + 1) % 8 : i % 8).append("7F");
            }
            ScanCoder x = new ScanCoder();
            x.frame(48, 24, 1, 0);
            x.scan(1, 0, 0, 1, 0);
            x.restart(1);
            Kit.reads("restart " + wrong + " is another one", x, hex.toString(), wrong < 0 ? 0 : 5);
        }
        ScanCoder x = new ScanCoder();
        x.frame(64, 16, 1, 0);
        x.scan(1, 0, 0, 1, 0);
        x.restart(1);
        StringBuilder hex = new StringBuilder("7F");
        for (int i = 0; i < 15; i++) {
            hex.append("FFD").append(Integer.toHexString(i).toUpperCase()).append("7F");
        }
        Kit.reads("8 behind 7", x, hex.toString(), 5);
    }

    /** "6: 255 is followed by something else but 0 and a RESTART, or the DATA end with it, where a bit .. is needed" */
    private static void behind255() {
        for (int second = 0; second < 256; second++) {
            String hex = "FF" + String.format("%02X", second);
            int due = second == 0 ? 0 : second >= 208 && second <= 215 ? 1 : 6;
            if (due == 0) {
                good("255 and 0", DIRECT_BIT, hex);
            } else {
                readsFault(due, "255 and " + second, DIRECT_BIT, hex);
                readsFault(due, "255 and " + second + ", more behind it", DIRECT_BIT, hex + "3F");
                readsFault(due, "the second byte", DIRECT, ending(Kit.direct(5) + "1000") + hex + "FF");
                readsFault(5, "no bit of it is needed", DIRECT_BIT, "3F" + hex);
            }
        }
        fault(6, "the end behind 255", DIRECT_BIT, "FF");
        fault(6, "255 and 255", DIRECT_BIT, "FFFF");
        fault(6, "255 and 207", BAND, "FFCF");
        fault(1, "255 and 208", BAND, "FFD0");
        fault(1, "255 and 215", BAND_BIT, "FFD7");
        fault(6, "255 and 216", WHOLE, "FFD8");
        fault(6, "the end behind 255, within a number", DIRECT, ending(Kit.direct(5) + "1000") + "FF");
        fault(5, "the end behind 255, no bit is needed", DIRECT_BIT, "3FFF");
        ScanCoder x = good("a 0 behind 255 is no bits", x8 -> {
            x8.frame(64, 16, 1, 0);
            x8.scan(1, 0, 0, 1, 0);
        }, "FF00FE");
        Kit.same("fifteen 1s", x.look(4), 15);
        Kit.same("the last is 0", x.get(0, 15, 0), 0);
    }

    private static void theFirstFaultOfSeveral() {
        // A wrong value, then a wrong symbol, then no word, then a byte too many.
        String value = Kit.direct(11) + "11111111111";
        fault(4, "4 ahead of 2", DIRECT, Kit.pack(value + "1111") + "00");
        fault(2, "2 ahead of 4", DIRECT, Kit.pack("1111" + value) + "00");
        fault(3, "3 ahead of 4", WHOLE, Kit.pack(D0 + Kit.other(11) + END + value));
        fault(4, "4 ahead of 3", WHOLE, Kit.pack(value + Kit.other(11)));
        fault(3, "3 ahead of 5", BAND, Kit.pack(Kit.other(11) + Kit.other(224) + "11111111111111"));
        fault(5, "5 ahead of a wrong restart's 1", x -> {
            DIRECT_BIT.on(x);
            x.restart(1);
        }, "7FFFD1");
        fault(2, "2 ahead of 6", DIRECT, Kit.pack(D0 + "1111") + "FF01");
        fault(6, "6 in the first byte", DIRECT, "FF01" + Kit.pack(value));
    }
}
