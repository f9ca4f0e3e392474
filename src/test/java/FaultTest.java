/** Promise 12: the faults of reading, which of them comes first, and that nothing changes then. */
public final class FaultTest {
    private static final String D0 = Kit.direct(0);
    private static final String END = Kit.other(0);
    private static final String ZEROS16 = Kit.other(240);

    public static void main(String[] args) {
        bitsEnd();
        noWord();
        wrongSymbolsOfDirect();
        wrongSymbolsOfOthers();
        wrongSymbolsOfBands();
        wrongSymbolsOfRefinements();
        wrongCoefficients();
        runsThatGoOn();
        wrongEnds();
        wrongRestarts();
        wrongBytes();
        nothingChanges();
        Kit.done();
    }

    /** Bits as bytes; those that do not fill one are left out. */
    private static String cutOff(String bits) {
        return Kit.pack(bits.substring(0, bits.length() / 8 * 8));
    }

    private static void bitsEnd() {
        ScanCoder x = Kit.coder();
        Kit.reads("no data", x, "", 1);
        Kit.reads("within a number", x, cutOff(Kit.direct(8) + "11110000"), 1);
        Kit.reads("ahead of a word", x, cutOff(Kit.direct(4) + "1111"), 1);
        Kit.reads("within a word", x, cutOff(Kit.direct(0) + "0000"), 1);
        Kit.reads("at a restart", x, cutOff(Kit.direct(0) + "0000") + "FFD0", 1);
        Kit.reads("at any restart", x, cutOff(Kit.direct(0) + "0000") + "FFD7" + "0000", 1);
        Kit.reads("at a restart that comes first", x, "FFD3" + Kit.pack(D0 + END), 1);
        x.scan(1, 0, 0, 1, 0);
        Kit.reads("a bit", x, "", 1);
        x.frame(16, 8, 1, 0);
        x.restart(1);
        x.scan(1, 0, 0, 0, 0);
        Kit.reads("behind a restart", x, Kit.pack(D0) + "FFD0", 1);
        x.scan(1, 1, 63, 0, 0);
        Kit.reads("a run's number just there", x, cutOff(Kit.other(112) + "1111110"), 5);
        Kit.reads("within a run's number", x, cutOff(Kit.other(128) + "1111111"), 1);
        x.set(0, 0, 9, 1);
        x.scan(1, 1, 63, 1, 0);
        Kit.reads("at a sign", x, cutOff(Kit.other(1)), 1);
        x.set(0, 0, 1, 1);
        Kit.reads("a bit of what is there", x, cutOff(Kit.other(112) + "1111111"), 1);
        Kit.reads("a bit of what is there", x, cutOff(Kit.other(112) + "1111111") + "FFD0", 1);
    }

    private static void noWord() {
        ScanCoder x = new ScanCoder();
        Kit.reads("a table without words, no data", x, "", 2);
        Kit.reads("a table without words", x, "FFFF", 2);
        x.counts(1L << 8 | 1L << 16, 0);
        x.symbols(0x0001, 2);
        x.make(0);
        x.scan(1, 0, 0, 0, 0);
        // 00 and 010 are words.
        Kit.reads("1", x, "80", 2);
        Kit.reads("011", x, "7F", 2);
        Kit.reads("00", x, "3F", 0);
        Kit.reads("0100", x, "4F", 0);
        Kit.reads("no data", x, "", 1);
        x.frame(16, 8, 1, 0);
        x.scan(1, 0, 0, 0, 0);
        x.counts(0, 1L << 56);
        x.symbols(0, 1);
        x.make(0);
        // The only word is sixteen 0s; no bit is taken when none can lead to it.
        Kit.reads("fifteen 0s and a 1", x, "0001", 2);
        Kit.reads("one word, then nothing", x, "0000", 1);
        Kit.reads("eight 0s", x, "00", 1);
        Kit.reads("eight 0s, then none", x, "00FF", 6);
        Kit.reads("seven 0s and a 1, then none", x, "01FF", 2);
        Kit.reads("two words", x, "00000000", 0);
        x.tables(0, 0, 5);
        x.scan(1, 0, 63, 0, 0);
        Kit.reads("no words in the other table", x, "0000", 2);
    }

    private static void wrongSymbolsOfDirect() {
        ScanCoder x = Kit.coder();
        Kit.fillOther(x, 1);
        x.tables(0, 1, 4);
        x.scan(1, 0, 0, 0, 0);
        Kit.reads("11", x, Kit.pack(Kit.other(11) + "01111111111"), 0);
        Kit.same("11", x.get(0, 0, 0), -1024);
        Kit.reads("12", x, Kit.pack(Kit.other(12) + "111111111111"), 3);
        Kit.reads("16", x, Kit.pack(Kit.other(16)), 3);
        Kit.reads("254", x, Kit.pack(Kit.other(254)), 3);
        Kit.reads("12 without bits", x, cutOff(Kit.other(12) + "1111111"), 3);
        Kit.reads("11 without bits", x, cutOff(Kit.other(11) + "1111111"), 1);
    }

    private static void wrongSymbolsOfOthers() {
        ScanCoder x = Kit.coder();
        Kit.reads("size 10", x, Kit.pack(D0 + Kit.other(10) + "1111111111" + END), 0);
        Kit.reads("size 11", x, Kit.pack(D0 + Kit.other(11) + "11111111111" + END), 3);
        Kit.reads("size 15", x, Kit.pack(D0 + Kit.other(15)), 3);
        for (int n = 1; n < 15; n++) {
            Kit.reads("16 * n", x, Kit.pack(D0 + Kit.other(16 * n) + "00000000000000"), 3);
        }
        String to48 = D0 + Kit.repeat(ZEROS16, 3);
        Kit.reads("up to 63", x, Kit.pack(to48 + Kit.other(16 * 14 + 1) + "1"), 0);
        Kit.reads("up to 64", x, Kit.pack(to48 + Kit.other(16 * 15 + 1) + "1"), 3);
        Kit.reads("up to 64, without bits", x, cutOff(to48 + Kit.other(16 * 15 + 8)), 3);
        Kit.reads("sixteen up to 64", x, Kit.pack(to48 + ZEROS16), 3);
        String to47 = D0 + Kit.repeat(ZEROS16, 2) + Kit.other(16 * 14 + 1) + "1";
        Kit.reads("sixteen up to 63", x, Kit.pack(to47 + ZEROS16), 0);
        Kit.reads("one up to 63, fifteen ahead", x, Kit.pack(to47 + Kit.other(16 * 15 + 1) + "0"), 0);
    }

    private static void wrongSymbolsOfBands() {
        ScanCoder x = Kit.coder();
        x.scan(1, 3, 20, 0, 0);
        Kit.reads("up to 20", x, Kit.pack(Kit.other(16 * 15 + 1) + "1" + Kit.other(16 + 1) + "1"), 0);
        Kit.reads("up to 21", x, Kit.pack(Kit.other(16 * 15 + 1) + "1" + Kit.other(32 + 1) + "1"), 3);
        Kit.reads("sixteen up to 18", x, Kit.pack(ZEROS16 + Kit.other(16 + 1) + "1"), 0);
        Kit.reads("sixteen up to 18, one at 21", x, Kit.pack(ZEROS16 + Kit.other(32 + 1) + "1"), 3);
        Kit.reads("sixteen up to 20", x, Kit.pack(Kit.other(16 + 1) + "1" + ZEROS16), 0);
        Kit.reads("sixteen up to 21", x, Kit.pack(Kit.other(32 + 1) + "1" + ZEROS16), 3);
        Kit.reads("size 11", x, Kit.pack(Kit.other(11) + "11111111111"), 3);
        Kit.reads("a run of 2", x, Kit.pack(Kit.other(16) + "0"), 5);
    }

    private static void wrongSymbolsOfRefinements() {
        ScanCoder x = Kit.coder();
        x.scan(1, 3, 8, 1, 0);
        for (int k = 5; k <= 8; k++) {
            x.set(0, 0, k, 2);
        }
        // 3 and 4 are 0; behind them are four that have bits.
        Kit.reads("S 2", x, Kit.pack(Kit.other(2) + "11" + "1111"), 3);
        Kit.reads("S 15, without bits", x, cutOff(Kit.other(15) + "1111111"), 3);
        Kit.reads("the second 0", x, Kit.pack(Kit.other(16 + 1) + "1" + END + "1111"), 0);
        Kit.same("the second 0", x.get(0, 0, 4), 1);
        x.set(0, 0, 4, 0);
        Kit.reads("a third 0", x, Kit.pack(Kit.other(32 + 1) + "1" + "0000"), 3);
        Kit.reads("sixteen", x, Kit.pack(ZEROS16 + "0000"), 3);
        Kit.reads("a third 0, more bits than needed", x, cutOff(Kit.other(32 + 1) + "1" + "000000"), 3);
        x.set(0, 0, 3, 2);
        x.set(0, 0, 4, 2);
        // Seen only behind the bits of all six.
        Kit.reads("no 0 at all, all bits", x, cutOff(Kit.other(1) + "1" + "000000"), 3);
        x.scan(1, 3, 9, 1, 0);
        x.set(0, 0, 9, -2);
        Kit.reads("no 0 at all, one bit less", x, cutOff(Kit.other(1) + "1" + "000000"), 1);
        Kit.reads("no 0 at all, then a wrong byte", x, cutOff(Kit.other(1) + "1" + "000000") + "FF01", 6);
        ScanCoder y = Kit.coder();
        y.scan(1, 1, 16, 1, 0);
        Kit.reads("sixteen zeros", y, Kit.pack(ZEROS16), 0);
        y.set(0, 0, 16, 4);
        Kit.reads("fifteen zeros", y, Kit.pack(ZEROS16 + "1"), 3);
        Kit.reads("the fifteenth", y, Kit.pack(Kit.other(16 * 14 + 1) + "1" + END + "1"), 0);
        Kit.same("the fifteenth", y.get(0, 0, 15), 1);
    }

    private static void wrongCoefficients() {
        ScanCoder x = Kit.coder();
        x.scan(1, 0, 0, 0, 0);
        Kit.reads("1024", x, Kit.pack(Kit.direct(11) + "10000000000"), 4);
        Kit.reads("-1025", x, Kit.pack(Kit.direct(11) + "01111111110"), 4);
        Kit.reads("-1024", x, Kit.pack(Kit.direct(11) + "01111111111"), 0);
        Kit.reads("4 comes behind the bits", x, cutOff(Kit.direct(11) + "1000000000"), 1);
        x.scan(1, 0, 0, 0, 1);
        Kit.reads("512 * 2", x, Kit.pack(Kit.direct(10) + "1000000000"), 4);
        Kit.reads("511 * 2", x, Kit.pack(Kit.direct(9) + "111111111"), 0);
        Kit.reads("-512 * 2", x, Kit.pack(Kit.direct(10) + "0111111111"), 0);
        Kit.reads("-513 * 2", x, Kit.pack(Kit.direct(10) + "0111111110"), 4);
        x.scan(1, 0, 0, 0, 9);
        Kit.reads("2 * 512", x, Kit.pack(Kit.direct(2) + "10"), 4);
        Kit.reads("-2 * 512", x, Kit.pack(Kit.direct(2) + "01"), 0);
        x.scan(1, 1, 2, 0, 0);
        Kit.reads("-1023", x, Kit.pack(Kit.other(10) + "0000000000" + END), 0);
        Kit.same("-1023", x.get(0, 0, 1), -1023);
        x.scan(1, 1, 2, 0, 1);
        Kit.reads("512 * 2", x, Kit.pack(Kit.other(10) + "1000000000" + END), 4);
        Kit.reads("-512 * 2", x, Kit.pack(Kit.other(10) + "0111111111" + END), 4);
        Kit.reads("-511 * 2", x, Kit.pack(Kit.other(9) + "000000000" + END), 0);
        Kit.reads("4 comes behind the bits", x, cutOff(Kit.other(10) + "100000"), 1);
        x.frame(16, 8, 1, 0);
        x.scan(1, 0, 0, 0, 0);
        Kit.reads("1023 and 1", x, Kit.pack(Kit.direct(10) + "1111111111" + Kit.direct(1) + "1"), 4);
        Kit.reads("-1024 and -1", x, Kit.pack(Kit.direct(11) + "01111111111" + Kit.direct(1) + "0"), 4);
        Kit.reads("1023 and -2047", x, Kit.pack(Kit.direct(10) + "1111111111" + Kit.direct(11) + "00000000000"), 0);
        Kit.same("-1024", x.get(0, 1, 0), -1024);
    }

    private static void runsThatGoOn() {
        ScanCoder x = Kit.coder();
        x.frame(32, 8, 1, 0);
        x.scan(1, 1, 63, 0, 0);
        Kit.reads("four", x, Kit.pack(Kit.other(32) + "00"), 0);
        Kit.reads("five", x, Kit.pack(Kit.other(32) + "01"), 5);
        Kit.reads("32767", x, Kit.pack(Kit.other(224) + "11111111111111"), 5);
        Kit.reads("three and two", x, Kit.pack(Kit.other(16) + "1" + Kit.other(16) + "0"), 5);
        x.restart(2);
        Kit.reads("two and two", x, Kit.pack(Kit.other(16) + "0") + "FFD0" + Kit.pack(Kit.other(16) + "0"), 0);
        Kit.reads("three beyond a restart", x, Kit.pack(Kit.other(16) + "1") + "FFD0" + Kit.pack(END), 5);
        x.scan(1, 1, 63, 1, 0);
        Kit.reads("three beyond a restart", x, Kit.pack(Kit.other(16) + "1") + "FFD0" + Kit.pack(END), 5);
        x.set(0, 1, 4, 2);
        // What the run needs up to the restart is missing first.
        Kit.reads("a bit of the run is missing", x, cutOff(Kit.other(112) + "1111111"), 1);
        x.set(0, 1, 4, 0);
        Kit.reads("the run is too long", x, cutOff(Kit.other(112) + "1111111"), 5);
    }

    private static void wrongEnds() {
        ScanCoder x = Kit.coder();
        x.scan(1, 0, 0, 0, 0);
        Kit.reads("1s", x, "0F", 0);
        Kit.reads("a 0 at the end", x, "0E", 5);
        Kit.reads("a 0 in front", x, "07", 5);
        Kit.reads("a byte more", x, "0FFF", 5);
        Kit.reads("a byte more", x, "0FFF00", 5);
        Kit.reads("a byte more", x, "0F00", 5);
        Kit.reads("a restart", x, "0FFFD0", 5);
        Kit.reads("a whole byte", x, "3A", 5);
        Kit.reads("a whole byte", x, Kit.pack(Kit.direct(4) + "1111"), 0);
        Kit.reads("eight 1s behind it", x, Kit.pack(Kit.direct(4) + "1111" + "11111111"), 5);
        Kit.reads("the 0 behind 255 is there", x, "AFFF00", 0);
        Kit.reads("and another one", x, "AFFF0000", 5);
    }

    private static void wrongRestarts() {
        ScanCoder x = Kit.coder();
        x.frame(24, 8, 1, 0);
        x.scan(1, 0, 0, 0, 0);
        x.restart(1);
        Kit.reads("right", x, "0FFFD00FFFD10F", 0);
        Kit.reads("the wrong one", x, "0FFFD10FFFD10F", 5);
        Kit.reads("the same again", x, "0FFFD00FFFD00F", 5);
        Kit.reads("no 1s ahead of it", x, "0EFFD00FFFD10F", 5);
        Kit.reads("none", x, "0F0FFFD10F", 5);
        Kit.reads("half of it", x, "0FFF", 5);
        Kit.reads("the end", x, "0F", 5);
        Kit.reads("255 and 0", x, "0FFF000FFFD10F", 5);
        Kit.reads("255 twice", x, "0FFFFFD00FFFD10F", 5);
        Kit.reads("another one", x, "0FFFC00FFFD10F", 5);
        Kit.reads("one too many", x, "0FFFD00FFFD10FFFD2", 5);
        Kit.reads("behind it two", x, "0FFFD0FFD10F", 1);
        x.restart(2);
        Kit.reads("right", x, "00FFD00F", 0);
        Kit.reads("too early", x, "04FFD00F", 1);
        x.restart(0);
        Kit.reads("none is due", x, "00FFD00F", 1);
        Kit.reads("none", x, "000F", 0);
    }

    private static void wrongBytes() {
        ScanCoder x = Kit.coder();
        Kit.reads("first byte", x, "FF01", 6);
        Kit.reads("first byte, then the end", x, "FF", 6);
        Kit.reads("255 twice", x, "FFFF", 6);
        Kit.reads("below the restarts", x, "FFCF", 6);
        Kit.reads("the first restart", x, "FFD0", 1);
        Kit.reads("the last restart", x, "FFD7", 1);
        Kit.reads("above the restarts", x, "FFD8", 6);
        Kit.reads("255 and 0", x, "FF00", 2);
        x.scan(1, 0, 0, 0, 0);
        Kit.reads("within a number", x, "AFFF", 6);
        Kit.reads("within a number", x, "AFFF80", 6);
        Kit.reads("within a number, a restart", x, "AFFFD0", 1);
        Kit.reads("3 and 2 come ahead", x, "C0FF01", 2);
    }

    private static void nothingChanges() {
        ScanCoder x = Kit.coder();
        x.frame(16, 8, 1, 0);
        x.set(0, 0, 0, 7);
        x.set(0, 0, 1, 8);
        x.set(0, 1, 2, 9);
        Kit.reads("fault in the second block", x, Kit.pack(Kit.direct(1) + "1" + Kit.other(17) + "1" + END + D0
                + Kit.other(11)), 3);
        Kit.reads("fault at the end", x, Kit.pack(D0 + END + D0 + END) + "00", 5);
        x.scan(1, 1, 63, 1, 0);
        Kit.reads("fault of a refinement", x, Kit.pack(Kit.other(1) + "1" + "1" + END + END + "1") + "00", 5);
        x.scan(1, 0, 0, 1, 0);
        Kit.reads("fault of a direct refinement", x, "C0", 5);
        Kit.same("coefficient", x.get(0, 0, 0), 7);
        Kit.same("coefficient", x.get(0, 0, 1), 8);
        Kit.same("coefficient", x.get(0, 1, 2), 9);
        Kit.same("no others", x.look(4), 3);
        Kit.same("data", x.look(0), 1);
        Kit.same("data", x.data(0), 0xC0);
    }
}
