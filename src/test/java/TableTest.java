/** Promises 3 to 5: counts, symbols and make. */
public final class TableTest {
    public static void main(String[] args) {
        words();
        longWords();
        symbolsInTheirOrder();
        wrongSymbols();
        wrongTables();
        allOnes();
        drafts();
        Kit.done();
    }

    /** The word of a symbol is seen in what a direct scan of a coefficient of that size writes. */
    private static String wordOf(ScanCoder x, int size) {
        x.scan(1, 0, 0, 0, 0);
        x.set(0, 0, 0, size == 0 ? 0 : -((1 << size) - 1));
        x.write();
        return Kit.dump(x);
    }

    private static void words() {
        ScanCoder x = new ScanCoder();
        // Lengths 2, 2, 3, 5, 5: 00, 01, 100, 10100, 10101.
        x.counts(2L << 8 | 1L << 16 | 2L << 32, 0);
        Kit.yes("symbols", x.symbols(0x0203000401L, 5));
        Kit.yes("make", x.make(0));
        Kit.same("words", x.look(5), 5);
        Kit.sameText("00 for 2", wordOf(x, 2), Kit.pack("00" + "00"));
        Kit.sameText("01 for 3", wordOf(x, 3), Kit.pack("01" + "000"));
        Kit.sameText("100 for 0", wordOf(x, 0), Kit.pack("100"));
        Kit.sameText("10100 for 4", wordOf(x, 4), Kit.pack("10100" + "0000"));
        Kit.sameText("10101 for 1", wordOf(x, 1), Kit.pack("10101" + "0"));
    }

    private static void longWords() {
        ScanCoder x = new ScanCoder();
        // A word of each length 1 .. 16: 0, 10, 110, ..
        x.counts(0x0101010101010101L, 0x0101010101010101L);
        Kit.yes("symbols", x.symbols(0x1011121314151617L, 8));
        Kit.yes("symbols", x.symbols(0x18191A1B1C1D0A00L, 8));
        Kit.yes("make", x.make(0));
        Kit.same("words", x.look(5), 16);
        Kit.sameText("sixteen bits", wordOf(x, 0), Kit.pack("1111111111111110"));
        Kit.sameText("fifteen bits", wordOf(x, 10), Kit.pack("111111111111110" + "0000000000"));
        // The first word of all is all 0s, however long.
        x.counts(0, 2L << 56);
        Kit.yes("symbols", x.symbols(0x0001, 2));
        Kit.yes("make", x.make(0));
        Kit.sameText("sixteen 0s", wordOf(x, 0), "0000");
        Kit.sameText("and the next", wordOf(x, 1), Kit.pack("0000000000000001" + "0"));
        // Byte 0 of high is nine bits, byte 7 of low is eight.
        x.counts(1L << 56, 1);
        Kit.yes("symbols", x.symbols(0x0001, 2));
        Kit.yes("make", x.make(0));
        Kit.sameText("eight bits", wordOf(x, 0), "00");
        Kit.sameText("nine bits", wordOf(x, 1), Kit.pack("000000010" + "0"));
    }

    private static void symbolsInTheirOrder() {
        ScanCoder x = new ScanCoder();
        // Of the lowest n bytes the highest comes first; higher bytes are not looked at.
        x.counts(3L << 8, 0);
        Kit.yes("symbols", x.symbols(0x7700000000000102L, 2));
        Kit.yes("symbols", x.symbols(0x5500L, 1));
        Kit.yes("make", x.make(0));
        Kit.sameText("first", wordOf(x, 1), Kit.pack("00" + "0"));
        Kit.sameText("second", wordOf(x, 2), Kit.pack("01" + "00"));
        Kit.sameText("third", wordOf(x, 0), Kit.pack("10"));
        x.counts(0, 8);
        Kit.yes("eight at once", x.symbols(0xFFFEFDFCFBFAF9F8L, 8));
        Kit.yes("make", x.make(7));
        Kit.same("words", x.look(5), 11);
    }

    private static void wrongSymbols() {
        ScanCoder x = new ScanCoder();
        int[] wrongs = {0, -1, 9, 64, Integer.MIN_VALUE, Integer.MAX_VALUE};
        x.counts(1, 0);
        for (int n : wrongs) {
            Kit.no("how many", x.symbols(1, n));
        }
        Kit.yes("one", x.symbols(1, 1));
        Kit.yes("nothing came with the wrong ones", x.make(0));
        for (int i = 0; i < 31; i++) {
            Kit.yes("more than the counts say", x.symbols(1, 8));
        }
        Kit.no("257", x.symbols(1, 8));
        Kit.yes("255", x.symbols(1, 6));
        Kit.no("257", x.symbols(1, 2));
        Kit.yes("256", x.symbols(1, 1));
        Kit.no("257", x.symbols(1, 1));
        Kit.no("make", x.make(0));
        all256();
    }

    private static void all256() {
        ScanCoder x = new ScanCoder();
        Kit.fillOther(x, 3);
        Kit.same("256 words", x.look(5), 256);
        Kit.fillOther(x, 3);
        Kit.same("256 words", x.look(5), 256);
        Kit.no("257 symbols", x.symbols(0, 1));
        Kit.yes("draft still has 256", x.make(6));
        Kit.same("512 words", x.look(5), 512);
    }

    private static void wrongTables() {
        ScanCoder x = new ScanCoder();
        x.counts(1, 0);
        Kit.no("too few symbols", x.make(0));
        x.symbols(5, 1);
        int[] wrongs = {-1, 8, 16, Integer.MIN_VALUE, Integer.MAX_VALUE};
        for (int t : wrongs) {
            Kit.no("which table", x.make(t));
        }
        Kit.yes("make", x.make(7));
        x.symbols(6, 1);
        Kit.no("too many symbols", x.make(7));
        Kit.same("the table is as it was", x.look(5), 1);
        x.counts(2L << 8, 0);
        x.symbols(0x0505, 2);
        Kit.no("a symbol twice", x.make(7));
        x.counts(0, 3L << 56);
        x.symbols(0xFF00FFL, 3);
        Kit.no("a symbol twice", x.make(7));
        x.counts(-1L, -1L);
        for (int s = 0; s < 256; s += 8) {
            x.symbols(0x0101010101010101L * s + 0x0001020304050607L, 8);
        }
        Kit.no("more words than symbols can be", x.make(7));
        Kit.same("the table is as it was", x.look(5), 1);
    }

    private static void allOnes() {
        ScanCoder x = new ScanCoder();
        x.counts(2, 0);
        x.symbols(0x0102, 2);
        Kit.no("1 is all 1s", x.make(0));
        x.counts(1L | 2L << 8, 0);
        x.symbols(0x010203, 3);
        Kit.no("11 is all 1s", x.make(0));
        x.counts(3L, 0);
        x.symbols(0x010203, 3);
        Kit.no("10 is more than one bit", x.make(0));
        x.counts(1L | 1L << 8 | 1L << 16, 0);
        x.symbols(0x010203, 3);
        Kit.yes("0, 10, 110", x.make(0));
        x.counts(3L | 1L << 56, 0);
        x.symbols(0x01020304, 4);
        Kit.no("more than all 1s, before", x.make(0));
        x.counts(0x0101010101010101L, 0x0201010101010101L);
        x.symbols(0x0102030405060708L, 8);
        x.symbols(0x090A0B0C0D0E0F10L, 8);
        x.symbols(0x11, 1);
        Kit.no("sixteen 1s", x.make(0));
        x.counts(3L << 8, 0);
        x.symbols(0x010203, 3);
        Kit.yes("00, 01, 10", x.make(0));
        x.counts(3L << 8 | 2L << 16, 0);
        x.symbols(0x0102030405L, 5);
        Kit.no("111", x.make(0));
        x.counts(3L << 8 | 1L << 16, 0);
        x.symbols(0x01020304L, 4);
        Kit.yes("110", x.make(0));
        Kit.same("words", x.look(5), 4);
    }

    private static void drafts() {
        ScanCoder x = new ScanCoder();
        Kit.yes("a draft without words is a table without words", x.make(0));
        x.counts(1, 0);
        x.symbols(3, 1);
        Kit.yes("make", x.make(0));
        Kit.yes("the draft is still there", x.make(1));
        Kit.same("words", x.look(5), 2);
        x.counts(1, 0);
        Kit.no("counts() takes the symbols away", x.make(1));
        x.symbols(4, 1);
        Kit.yes("make", x.make(1));
        x.counts(0, 0);
        Kit.same("a table is no draft", x.look(5), 2);
        Kit.yes("no words", x.make(1));
        Kit.same("words", x.look(5), 1);
        Kit.same("words needed", x.write(), -1);
        x.frame(8, 8, 1, 0);
        x.scan(1, 0, 0, 0, 0);
        x.tables(0, 1, 4);
        Kit.same("no words in table 1", x.read(), 2);
        oldWordsAreGone();
    }

    private static void oldWordsAreGone() {
        ScanCoder x = Kit.coder();
        x.scan(1, 0, 0, 0, 0);
        x.set(0, 0, 0, 1);
        Kit.same("write", x.write(), 1);
        x.counts(1, 0);
        x.symbols(0, 1);
        Kit.yes("make", x.make(0));
        Kit.same("no word for 1 now", x.write(), -1);
    }
}
