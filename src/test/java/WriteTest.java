/** Promise 11: what is written, bit by bit, and what can not be. */
public final class WriteTest {
    public static void main(String[] args) {
        directNumbers();
        directWithBits();
        directRefinement();
        wholeBlocks();
        ownBlocksOfOneComponent();
        unitsOfSeveralComponents();
        bands();
        runsOfBands();
        bandRefinement();
        runsOfRefinements();
        refinementWithManyHeldBits();
        restarts();
        restartsOfRuns();
        stuffing();
        missingWords();
        Kit.done();
    }

    private static final String D0 = Kit.direct(0);
    private static final String END = Kit.other(0);
    private static final String ZEROS16 = Kit.other(240);

    private static void directNumbers() {
        ScanCoder x = Kit.coder();
        x.scan(1, 0, 0, 0, 0);
        int[] numbers = {0, 1, -1, 2, 3, -2, -3, 1023, -1023, -1024};
        String[] bits = {D0, Kit.direct(1) + "1", Kit.direct(1) + "0", Kit.direct(2) + "10", Kit.direct(2) + "11",
            Kit.direct(2) + "01", Kit.direct(2) + "00", Kit.direct(10) + "1111111111",
            Kit.direct(10) + "0000000000", Kit.direct(11) + "01111111111"};
        for (int i = 0; i < numbers.length; i++) {
            x.set(0, 0, 0, numbers[i]);
            Kit.writes("direct " + numbers[i], x, Kit.pack(bits[i]));
        }
        x.frame(24, 8, 1, 0);
        x.scan(1, 0, 0, 0, 0);
        x.set(0, 0, 0, -1024);
        x.set(0, 1, 0, 1023);
        x.set(0, 2, 0, 1020);
        Kit.writes("differences", x, Kit.pack(Kit.direct(11) + "01111111111" + Kit.direct(11) + "11111111111"
                + Kit.direct(2) + "00"));
    }

    private static void directWithBits() {
        ScanCoder x = Kit.coder();
        x.frame(24, 8, 1, 0);
        x.scan(1, 0, 0, 0, 2);
        x.set(0, 0, 0, -1);
        x.set(0, 1, 0, 7);
        x.set(0, 2, 0, -6);
        // Shifted with their signs: -1, 1, -2; differences -1, 2, -3.
        Kit.writes("direct, two bits", x, Kit.pack(Kit.direct(1) + "0" + Kit.direct(2) + "10" + Kit.direct(2) + "00"));
        x.scan(1, 0, 0, 0, 9);
        x.set(0, 0, 0, -1024);
        x.set(0, 1, 0, 1023);
        x.set(0, 2, 0, 511);
        Kit.writes("direct, nine bits", x, Kit.pack(Kit.direct(2) + "01" + Kit.direct(2) + "11" + Kit.direct(1) + "0"));
    }

    private static void directRefinement() {
        ScanCoder x = new ScanCoder();
        x.frame(32, 8, 1, 0);
        x.set(0, 0, 0, -1);
        x.set(0, 1, 0, 4);
        x.set(0, 2, 0, -6);
        x.set(0, 3, 0, 3);
        x.scan(1, 0, 0, 1, 0);
        Kit.writes("bit 0, without tables", x, Kit.pack("1001"));
        x.scan(1, 0, 0, 2, 1);
        Kit.writes("bit 1", x, Kit.pack("1011"));
        x.scan(1, 0, 0, 3, 2);
        Kit.writes("bit 2", x, Kit.pack("1100"));
        x.scan(1, 0, 0, 10, 9);
        Kit.writes("bit 9", x, Kit.pack("1010"));
    }

    private static void wholeBlocks() {
        ScanCoder x = Kit.coder();
        Kit.writes("nothing", x, Kit.pack(D0 + END));
        x.set(0, 0, 1, -3);
        x.set(0, 0, 17, 5);
        x.set(0, 0, 34, -1023);
        x.set(0, 0, 62, 1);
        // 15, 16 and 27 zeros between them, one behind the last.
        String bits = D0 + Kit.other(2) + "00" + Kit.other(16 * 15 + 3) + "101" + ZEROS16 + Kit.other(10)
                + "0000000000" + ZEROS16 + Kit.other(16 * 11 + 1) + "1";
        Kit.writes("runs of zeros", x, Kit.pack(bits + END));
        x.set(0, 0, 63, -1);
        Kit.writes("no end behind the last", x, Kit.pack(bits + Kit.other(1) + "0"));
        for (int k : new int[] {1, 17, 34, 62}) {
            x.set(0, 0, k, 0);
        }
        Kit.writes("62 zeros", x, Kit.pack(D0 + ZEROS16 + ZEROS16 + ZEROS16 + Kit.other(16 * 14 + 1) + "0"));
    }

    private static void ownBlocksOfOneComponent() {
        ScanCoder x = Kit.coder();
        x.frame(17, 9, 2, 3);
        x.scan(1, 0, 0, 0, 0);
        // Four across and two down, of its own three and two.
        for (int b = 0; b < 8; b++) {
            x.set(0, b, 0, 1 << b);
        }
        x.set(1, 0, 0, 500);
        // 1, 2, 4, 16, 32, 64: differences 1, 1, 2, 12, 16, 32.
        Kit.writes("own blocks", x, Kit.pack(Kit.direct(1) + "1" + Kit.direct(1) + "1" + Kit.direct(2) + "10"
                + Kit.direct(4) + "1100" + Kit.direct(5) + "10000" + Kit.direct(6) + "100000"));
    }

    private static void unitsOfSeveralComponents() {
        ScanCoder x = Kit.coder();
        x.frame(17, 9, 3, 0b00_01_11);
        x.scan(7, 0, 0, 1, 0);
        // Component 0: 4 by 2, component 1: 4 by 1, component 2: 2 by 1.
        for (int b : new int[] {1, 4, 7}) {
            x.set(0, b, 0, 1);
        }
        x.set(1, 3, 0, 1);
        x.set(2, 0, 0, 1);
        Kit.same("units", x.look(2), 2);
        // 0, 1, 4, 5 of component 0, 0, 1 of 1, 0 of 2; then 2, 3, 6, 7; 2, 3; 1.
        Kit.writes("three components", x, Kit.pack("0110" + "00" + "1" + "0001" + "01" + "0"));
        x.scan(6, 0, 0, 1, 0);
        Kit.writes("two of them", x, Kit.pack("00" + "1" + "01" + "0"));
        x.scan(5, 0, 0, 0, 0);
        // Each component has a prediction of its own.
        Kit.writes("predictions", x, Kit.pack(D0 + one("1") + D0 + one("0") + one("1")
                + D0 + D0 + D0 + one("1") + one("0")));
        x.frame(8, 16, 2, 0);
        x.set(0, 0, 0, 1);
        x.set(1, 1, 0, 1);
        x.scan(3, 0, 63, 0, 0);
        Kit.writes("whole of two", x, Kit.pack(one("1") + END + D0 + END + one("0") + END + one("1") + END));
    }

    private static String one(String bit) {
        return Kit.direct(1) + bit;
    }

    private static void bands() {
        ScanCoder x = Kit.coder();
        x.set(0, 0, 0, 100);
        x.set(0, 0, 4, 100);
        x.set(0, 0, 6, -7);
        x.set(0, 0, 9, 3);
        x.set(0, 0, 10, 4);
        x.set(0, 0, 11, 100);
        x.scan(1, 5, 10, 0, 0);
        Kit.writes("band", x, Kit.pack(Kit.other(16 + 3) + "000" + Kit.other(32 + 2) + "11" + Kit.other(3) + "100"));
        x.scan(1, 5, 10, 0, 2);
        // Amounts are shifted: -7 is -1, 3 is 0, 4 is 1.
        Kit.writes("band, two bits", x, Kit.pack(Kit.other(16 + 1) + "0" + Kit.other(48 + 1) + "1"));
        x.scan(1, 6, 6, 0, 1);
        Kit.writes("band of one", x, Kit.pack(Kit.other(2) + "00"));
        x.scan(1, 12, 63, 0, 0);
        Kit.writes("empty band", x, Kit.pack(Kit.other(0)));
        x.set(0, 0, 47, 1);
        Kit.writes("35 zeros", x, Kit.pack(ZEROS16 + ZEROS16 + Kit.other(48 + 1) + "1" + Kit.other(0)));
    }

    private static void runsOfBands() {
        ScanCoder x = Kit.coder();
        x.frame(64, 8, 1, 0);
        x.scan(1, 1, 2, 0, 0);
        Kit.writes("a run of eight", x, Kit.pack(Kit.other(48) + "000"));
        x.set(0, 7, 1, 1);
        Kit.writes("seven, and one behind the last", x, Kit.pack(Kit.other(32) + "11" + Kit.other(1) + "1" + END));
        x.set(0, 7, 2, -1);
        Kit.writes("seven", x, Kit.pack(Kit.other(32) + "11" + Kit.other(1) + "1" + Kit.other(1) + "0"));
        x.set(0, 5, 1, 1);
        // The run of block 5's rest goes on in block 6.
        Kit.writes("five and two", x, Kit.pack(Kit.other(32) + "01" + Kit.other(1) + "1" + Kit.other(16) + "0"
                + Kit.other(1) + "1" + Kit.other(1) + "0"));
        x.frame(64, 64, 1, 0);
        x.scan(1, 1, 63, 0, 0);
        Kit.writes("a run of 64", x, Kit.pack(Kit.other(96) + "000000"));
    }

    private static void bandRefinement() {
        ScanCoder x = Kit.coder();
        x.scan(1, 1, 63, 2, 1);
        // Amounts shifted by one bit: 2 (0 TO COME), 1, 3 (1 TO COME), 1, 0.
        x.set(0, 0, 2, 5);
        x.set(0, 0, 4, -3);
        x.set(0, 0, 5, -7);
        x.set(0, 0, 7, 2);
        x.set(0, 0, 8, 1);
        Kit.writes("refinement", x, Kit.pack(Kit.other(32 + 1) + "0" + "0" + Kit.other(16 + 1) + "1" + "1" + END));
        x.set(0, 0, 63, -1023);
        Kit.writes("bits behind the last new one", x,
                Kit.pack(Kit.other(32 + 1) + "00" + Kit.other(16 + 1) + "11" + END + "1"));
        x.set(0, 0, 7, 0);
        x.set(0, 0, 40, 3);
        // From 6 to 39 are 34 zeros: twice 240, with the bit of coefficient 5 behind the first.
        Kit.writes("sixteen zeros", x, Kit.pack(Kit.other(32 + 1) + "00" + ZEROS16 + "1" + ZEROS16
                + Kit.other(32 + 1) + "1" + END + "1"));
        x.set(0, 0, 40, 5);
        Kit.writes("no 240 behind the last new one", x, Kit.pack(Kit.other(32 + 1) + "00" + END + "101"));
        x.scan(1, 4, 5, 2, 1);
        Kit.writes("a band's end", x, Kit.pack(Kit.other(1) + "0" + END + "1"));
        x.scan(1, 4, 4, 2, 1);
        Kit.writes("no end behind the last", x, Kit.pack(Kit.other(1) + "0"));
        x.scan(1, 5, 5, 2, 1);
        Kit.writes("bits alone", x, Kit.pack(END + "1"));
        sixteenZerosAheadOfAnOldOne();
    }

    private static void sixteenZerosAheadOfAnOldOne() {
        ScanCoder x = Kit.coder();
        x.scan(1, 1, 63, 1, 0);
        x.set(0, 0, 17, -2);
        x.set(0, 0, 18, -1);
        Kit.writes("240 comes at an old one, too", x, Kit.pack(ZEROS16 + Kit.other(1) + "0" + "0" + END));
        x.set(0, 0, 18, 0);
        Kit.writes("if a new one comes behind it", x, Kit.pack(END + "0"));
    }

    private static void runsOfRefinements() {
        ScanCoder x = Kit.coder();
        x.frame(40, 8, 1, 0);
        x.scan(1, 1, 3, 1, 0);
        x.set(0, 0, 1, 2);
        x.set(0, 1, 3, -3);
        x.set(0, 1, 2, 2);
        x.set(0, 3, 2, 3);
        x.set(0, 3, 3, 1);
        // Three blocks with 0, 01, no bits; block 3 is sent behind them with its own bit behind the sign.
        Kit.writes("a run with bits", x, Kit.pack(Kit.other(16) + "1" + "0" + "01" + Kit.other(16 + 1) + "1" + "1"
                + END));
        x.set(0, 3, 3, 0);
        Kit.writes("all in one run", x, Kit.pack(Kit.other(32) + "01" + "0" + "01" + "1"));
    }

    /** Coefficients come by reading here: setting them all would be too many calls. */
    private static ScanCoder coderWithOldOnes() {
        ScanCoder x = Kit.coder();
        x.counts(1, 0);
        x.symbols(2, 1);
        x.make(5);
        x.frame(64, 32, 1, 0);
        x.tables(0, 0, 5);
        x.scan(1, 1, 63, 0, 0);
        String block = Kit.repeat("010" + "000" + "011", 21);
        Kit.reads("all 2, -3, 3", x, Kit.pack(Kit.repeat(block, 32)), 0);
        Kit.same("all there", x.look(4), 32 * 63);
        x.tables(0, 0, 4);
        return x;
    }

    private static void refinementWithManyHeldBits() {
        ScanCoder x = coderWithOldOnes();
        x.scan(1, 1, 63, 1, 0);
        String held = Kit.repeat("011", 21);
        // 14 blocks have 882 bits, 15 have 945.
        String run = Kit.other(48) + "111" + Kit.repeat(held, 15);
        Kit.writes("runs of fifteen", x, Kit.pack(run + run + Kit.other(16) + "0" + Kit.repeat(held, 2)));
        Kit.same("their words", x.tally(), 3);
        x = coderWithOldOnes();
        x.scan(1, 1, 60, 1, 0);
        String held60 = Kit.repeat("011", 20);
        // 900 bits are not too many yet.
        String run60 = Kit.other(64) + "0000" + Kit.repeat(held60, 16);
        Kit.writes("runs of sixteen", x, Kit.pack(run60 + run60));
        Kit.same("their words", x.tally(), 2);
        oneHeldBitTooMany();
    }

    private static void oneHeldBitTooMany() {
        ScanCoder x = coderWithOldOnes();
        x.scan(1, 1, 63, 1, 0);
        // 14 blocks have 882 bits; the next one keeps 18, then 19 of its own.
        for (int k = 20; k <= 63; k++) {
            Kit.yes("set", x.set(0, 14, k, 0));
        }
        Kit.same("901 bits: 15, 15 and 2 blocks", x.tally(), 3);
        Kit.same("15, 15", x.often(4, 48), 2);
        Kit.same("2", x.often(4, 16), 1);
        Kit.yes("set", x.set(0, 14, 19, 0));
        Kit.same("900 bits: 16 and 16 blocks, or 15 and 1", x.tally(), 3);
        Kit.same("16", x.often(4, 64), 1);
        Kit.same("15", x.often(4, 48), 1);
        Kit.same("1", x.often(4, 0), 1);
    }

    private static void restarts() {
        ScanCoder x = Kit.coder();
        x.frame(64, 16, 1, 0);
        for (int b = 0; b < 16; b++) {
            x.set(0, b, 0, 1);
        }
        x.scan(1, 0, 0, 0, 0);
        x.restart(1);
        StringBuilder due = new StringBuilder();
        String part = Kit.pack(one("1"));
        for (int b = 0; b < 16; b++) {
            due.append(b == 0 ? "" : "FFD" + (b - 1) % 8).append(part);
        }
        Kit.writes("a restart ahead of each", x, due.toString());
        x.restart(7);
        String seven = Kit.pack(one("1") + Kit.repeat(D0, 6));
        Kit.writes("ahead of 7 and 14", x, seven + "FFD0" + seven + "FFD1" + Kit.pack(one("1") + D0));
        x.restart(8);
        String eight = Kit.pack(one("1") + Kit.repeat(D0, 7));
        Kit.writes("none at the end", x, eight + "FFD0" + eight);
        x.restart(16);
        Kit.writes("no unit 16", x, Kit.pack(one("1") + Kit.repeat(D0, 15)));
        x.frame(32, 16, 2, 3);
        x.scan(3, 0, 0, 1, 0);
        x.restart(1);
        x.set(1, 1, 0, 1);
        Kit.writes("units of several blocks", x, Kit.pack("00000") + "FFD0" + Kit.pack("00001"));
    }

    private static void restartsOfRuns() {
        ScanCoder x = Kit.coder();
        x.frame(64, 8, 1, 0);
        x.scan(1, 1, 63, 0, 0);
        x.restart(3);
        String three = Kit.pack(Kit.other(16) + "1");
        Kit.writes("a run is sent ahead of a restart", x, three + "FFD0" + three + "FFD1" + Kit.pack(Kit.other(16) + "0"));
        x.scan(1, 1, 63, 1, 0);
        x.set(0, 1, 5, 2);
        x.set(0, 3, 6, -3);
        Kit.writes("with its bits", x, Kit.pack(Kit.other(16) + "10") + "FFD0" + Kit.pack(Kit.other(16) + "11")
                + "FFD1" + Kit.pack(Kit.other(16) + "0"));
    }

    private static void stuffing() {
        ScanCoder x = Kit.coder();
        x.scan(1, 0, 0, 0, 0);
        x.set(0, 0, 0, 1023);
        // 1010 1111 | 111111 and 11
        Kit.writes("the last byte is 255 by its filling", x, "AFFF00");
        x.frame(16, 8, 1, 0);
        x.scan(1, 0, 0, 0, 0);
        x.restart(1);
        x.set(0, 0, 0, 1023);
        x.set(0, 1, 0, 1023);
        Kit.writes("ahead of a restart, too", x, "AFFF00FFD0AFFF00");
        x.frame(64, 8, 1, 0);
        x.scan(1, 0, 0, 1, 0);
        for (int b = 0; b < 8; b++) {
            x.set(0, b, 0, -1);
        }
        Kit.writes("a whole byte of bits", x, "FF00");
        x.frame(64, 16, 1, 0);
        x.scan(1, 0, 0, 1, 0);
        for (int b = 0; b < 16; b++) {
            x.set(0, b, 0, 1);
        }
        Kit.writes("two of them", x, "FF00FF00");
        x.set(0, 0, 0, 0);
        Kit.writes("one of them", x, "7FFF00");
    }

    private static void missingWords() {
        ScanCoder x = Kit.coder();
        x.counts(2L << 8, 0);
        x.symbols(0x0011, 2);
        x.make(5);
        x.tables(0, 0, 5);
        x.give(0x1234, 2);
        x.set(0, 0, 2, 1);
        Kit.same("words there", x.write(), 2);
        x.cut(0);
        x.give(0x1234, 2);
        x.set(0, 0, 1, 1);
        Kit.same("no word for 1", x.write(), -1);
        Kit.sameText("data as before", Kit.dump(x), "1234");
        x.scan(1, 0, 0, 0, 0);
        Kit.same("the other table is not needed", x.write(), 1);
        x.tables(0, 1, 4);
        Kit.same("no word in the direct table", x.write(), -1);
        x.scan(1, 1, 63, 0, 0);
        Kit.same("the direct table is not needed", x.write() > 0 ? 1 : 0, 1);
        x.scan(1, 0, 0, 1, 0);
        Kit.same("no table is needed", x.write(), 1);
        Kit.same("coefficients stay", x.look(4), 2);
    }
}
