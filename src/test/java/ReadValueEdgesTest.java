/** Promise 12 and READING: what coefficients become, sentence by sentence, at the boundaries. */
public final class ReadValueEdgesTest {
    private static final String D0 = Kit.direct(0);
    private static final String END = Kit.other(0);
    private static final String ZEROS16 = Kit.other(240);

    public static void main(String[] args) {
        shiftedToTheLeft();
        theScansCoefficientsAlone();
        bandsAreClearedFromFirstToLast();
        runsClearToo();
        bitsOfDirectOnes();
        bitsOfOldOnes();
        newOnes();
        whereOldOnesHaveTheirBits();
        runsOfRefinements();
        predictions();
        Kit.done();
    }

    private static int bit(ScanCoder x, int k, int value, int bits, String data) {
        Kit.yes("set", x.set(0, 0, k, value));
        Kit.reads(value + ", bit " + bits, x, Kit.pack(data), 0);
        return x.get(0, 0, k);
    }

    /** "with BEFORE 0: shifted BITS to the left" */
    private static void shiftedToTheLeft() {
        for (int bits = 0; bits <= 9; bits++) {
            ScanCoder x = Kit.coder();
            x.scan(1, 0, 0, 0, bits);
            Kit.same("1", bit(x, 0, 77, bits, Kit.direct(1) + "1"), 1 << bits);
            Kit.same("-1", bit(x, 0, 77, bits, Kit.direct(1) + "0"), -(1 << bits));
            Kit.same("0", bit(x, 0, 77, bits, D0), 0);
            x.scan(1, 5, 5, 0, bits);
            Kit.same("1", bit(x, 5, 77, bits, Kit.other(1) + "1"), 1 << bits);
            Kit.same("-1", bit(x, 5, 77, bits, Kit.other(1) + "0"), -(1 << bits));
            Kit.same("0", bit(x, 5, 77, bits, END), 0);
        }
    }

    /** "coefficients of the SCAN become what was written": no others do. */
    private static void theScansCoefficientsAlone() {
        ScanCoder x = Kit.coder();
        x.frame(8, 8, 2, 0);
        for (int c = 0; c < 2; c++) {
            for (int k : new int[] {0, 1, 30, 62, 63}) {
                x.set(c, 0, k, 9);
            }
        }
        x.scan(1, 0, 0, 0, 0);
        Kit.reads("direct", x, Kit.pack(D0), 0);
        Kit.same("one less", x.look(4), 9);
        x.scan(1, 1, 1, 0, 0);
        Kit.reads("the first of the others", x, Kit.pack(END), 0);
        Kit.same("one less", x.look(4), 8);
        Kit.same("it", x.get(0, 0, 1), 0);
        x.scan(1, 63, 63, 0, 0);
        Kit.reads("the last", x, Kit.pack(END), 0);
        Kit.same("one less", x.look(4), 7);
        Kit.same("it", x.get(0, 0, 63), 0);
        x.scan(2, 0, 63, 0, 0);
        Kit.reads("whole of the other component", x, Kit.pack(D0 + END), 0);
        Kit.same("five less", x.look(4), 2);
        Kit.same("stays", x.get(0, 0, 30), 9);
        Kit.same("stays", x.get(0, 0, 62), 9);
    }

    /** "of a BAND all others of FIRST .. LAST are 0" */
    private static void bandsAreClearedFromFirstToLast() {
        int[][] bands = {{1, 1}, {1, 2}, {2, 2}, {20, 40}, {62, 63}, {63, 63}, {1, 63}};
        for (int[] band : bands) {
            ScanCoder x = Kit.coder();
            for (int k = 0; k < 64; k++) {
                x.set(0, 0, k, 500 + k);
            }
            x.scan(1, band[0], band[1], 0, 0);
            Kit.reads("a band", x, Kit.pack(Kit.other(1) + "0" + (band[1] > band[0] ? END : "")), 0);
            for (int k = 0; k < 64; k++) {
                int due = k == band[0] ? -1 : k > band[0] && k <= band[1] ? 0 : 500 + k;
                Kit.same("coefficient " + k + " of " + band[0] + " .. " + band[1], x.get(0, 0, k), due);
            }
        }
    }

    /** "with this block so many blocks have no further ones that become other than 0" */
    private static void runsClearToo() {
        for (int run = 1; run <= 7; run++) {
            ScanCoder x = Kit.coder();
            x.frame(64, 8, 1, 0);
            for (int block = 0; block < 8; block++) {
                x.set(0, block, 1, 5);
                x.set(0, block, 2, 6);
                x.set(0, block, 3, 7);
            }
            x.scan(1, 1, 2, 0, 0);
            int n = Integer.toBinaryString(run).length() - 1;
            // The first of block 0, a run, then blocks with two each.
            Kit.reads("a run of " + run, x, Kit.pack(Kit.other(1) + "1" + Kit.other(16 * n) + Kit.binary(run, n)
                    + Kit.repeat(Kit.other(1) + "1", 2 * (8 - run))), 0);
            for (int block = 0; block < 8; block++) {
                boolean covered = block < run;
                Kit.same("first", x.get(0, block, 1), block == 0 || !covered ? 1 : 0);
                Kit.same("second", x.get(0, block, 2), covered ? 0 : 1);
                Kit.same("behind the band", x.get(0, block, 3), 7);
            }
        }
    }

    /** "In a DIRECT REFINEMENT a bit 1 sets the bit BITS of the coefficient." */
    private static void bitsOfDirectOnes() {
        int[] values = {0, 1, -1, 2, -2, 511, 512, -512, -513, 1022, 1023, -1023, -1024};
        for (int bits = 0; bits <= 9; bits++) {
            for (int value : values) {
                ScanCoder x = new ScanCoder();
                x.scan(1, 0, 0, bits + 1, bits);
                boolean there = Math.floorMod(Math.floorDiv(value, 1 << bits), 2) == 1;
                Kit.same(value + ", 1", bit(x, 0, value, bits, "1"), there ? value : value + (1 << bits));
                Kit.same(value + ", 0", bit(x, 0, value, bits, "0"), value);
            }
        }
    }

    /** "each that is not 0 has a bit, which, if it is 1 and the bit BITS of its amount is 0, sets that" */
    private static void bitsOfOldOnes() {
        int[] amounts = {1, 2, 3, 4, 255, 256, 511, 512, 513, 1022, 1023};
        for (int bits = 0; bits <= 9; bits++) {
            for (int amount : amounts) {
                boolean there = amount / (1 << bits) % 2 == 1;
                int more = there ? amount : amount + (1 << bits);
                ScanCoder x = Kit.coder();
                x.scan(1, 7, 7, bits + 1, bits);
                Kit.same(amount + ", 1", bit(x, 7, amount, bits, END + "1"), more);
                Kit.same(amount + ", 0", bit(x, 7, amount, bits, END + "0"), amount);
                Kit.same("-" + amount + ", 1", bit(x, 7, -amount, bits, END + "1"), -more);
                Kit.same("-" + amount + ", 0", bit(x, 7, -amount, bits, END + "0"), -amount);
            }
        }
    }

    /** "with S = 1 it becomes 1 shifted BITS to the left, with its sign; for 240 it stays 0" */
    private static void newOnes() {
        for (int bits = 0; bits <= 9; bits++) {
            for (int zeros = 0; zeros <= 15; zeros++) {
                ScanCoder x = Kit.coder();
                x.scan(1, 1, 63, bits + 1, bits);
                String word = Kit.other(16 * zeros + 1);
                Kit.reads("above 0", x, Kit.pack(word + "1" + END), 0);
                Kit.same("above 0", x.get(0, 0, 1 + zeros), 1 << bits);
                Kit.same("one alone", x.look(4), 1);
                x.set(0, 0, 1 + zeros, 0);
                Kit.reads("below 0", x, Kit.pack(word + "0" + END), 0);
                Kit.same("below 0", x.get(0, 0, 1 + zeros), -(1 << bits));
                x.set(0, 0, 1 + zeros, 0);
                Kit.reads("behind sixteen", x, Kit.pack(ZEROS16 + word + "0" + END), 0);
                Kit.same("behind sixteen", x.get(0, 0, 17 + zeros), -(1 << bits));
                Kit.same("one alone", x.look(4), 1);
            }
        }
    }

    /** "coefficients are gone over from where one is": each old one has its bit behind the word that passes it. */
    private static void whereOldOnesHaveTheirBits() {
        ScanCoder x = old();
        // 2, 5 and 6 are old. A new one at 1; then 3, passing 2; then 4; then the rest.
        Kit.reads("one by one", x, Kit.pack(Kit.other(1) + "1" + Kit.other(1) + "1" + "1" + Kit.other(1) + "0" + END
                + "01"), 0);
        values(x, 1, 3, 1, -1, 4, 5);
        x = old();
        Kit.reads("one at 3 passes 1 and 2", x, Kit.pack(Kit.other(17) + "1" + "1" + END + "01"), 0);
        values(x, 0, 3, 1, 0, 4, 5);
        x = old();
        // The 0s 1, 3, 4 are passed over; the next one is 7, behind 5 and 6.
        Kit.reads("one at 7 passes all", x, Kit.pack(Kit.other(49) + "0" + "101" + END), 0);
        values(x, 0, 3, 0, 0, 4, 5);
        Kit.same("7", x.get(0, 0, 7), -1);
        x = old();
        // Of 1 .. 19 three are old: the sixteenth 0 is 19.
        Kit.reads("sixteen", x, Kit.pack(ZEROS16 + "111" + Kit.other(1) + "1" + END), 0);
        values(x, 0, 3, 0, 0, 5, 5);
        Kit.same("19", x.get(0, 0, 19), 0);
        Kit.same("20", x.get(0, 0, 20), 1);
        x = old();
        x.scan(1, 1, 4, 1, 0);
        Kit.reads("up to the last, 4", x, Kit.pack(Kit.other(33) + "1" + "1"), 0);
        values(x, 0, 3, 0, 1, 4, 4);
        x = old();
        x.scan(1, 1, 5, 1, 0);
        Kit.reads("behind it one more has a bit", x, Kit.pack(Kit.other(33) + "1" + "1" + END + "1"), 0);
        values(x, 0, 3, 0, 1, 5, 4);
        x = old();
        x.scan(1, 5, 6, 1, 0);
        Kit.reads("old ones alone", x, Kit.pack(END + "11"), 0);
        values(x, 0, 2, 0, 0, 5, 5);
    }

    private static ScanCoder old() {
        ScanCoder x = Kit.coder();
        x.scan(1, 1, 63, 1, 0);
        x.set(0, 0, 2, 2);
        x.set(0, 0, 5, 4);
        x.set(0, 0, 6, 4);
        return x;
    }

    private static void values(ScanCoder x, int... due) {
        for (int i = 0; i < due.length; i++) {
            Kit.same("coefficient " + (i + 1), x.get(0, 0, i + 1), due[i]);
        }
    }

    /** "(those that are not 0 have their bits)": of all blocks of the run, in this one from where one is. */
    private static void runsOfRefinements() {
        ScanCoder x = Kit.coder();
        x.frame(32, 8, 1, 0);
        x.scan(1, 1, 3, 1, 0);
        for (int block = 0; block < 4; block++) {
            for (int k = 1; k <= 4; k++) {
                x.set(0, block, k, block == 2 ? 0 : 2);
            }
        }
        x.set(0, 0, 2, 0);
        // Block 0: a new one at 2, behind 1's bit; the run begins behind it: 3 has a bit, block 1 three, block 2 none.
        Kit.reads("a run of three, then one", x, Kit.pack(Kit.other(1) + "1" + "0" + Kit.other(16) + "1" + "1" + "101"
                + END + "011"), 0);
        int[][] due = {{2, 1, 3, 2}, {3, 2, 3, 2}, {0, 0, 0, 0}, {2, 3, 3, 2}};
        for (int block = 0; block < 4; block++) {
            for (int k = 1; k <= 4; k++) {
                Kit.same("block " + block + ", " + k, x.get(0, block, k), due[block][k - 1]);
            }
        }
    }

    /** "the PREDICTION of each component is 0" at the beginning and behind a RESTART. */
    private static void predictions() {
        ScanCoder x = Kit.coder();
        x.frame(24, 8, 2, 0);
        x.scan(3, 0, 0, 0, 0);
        x.restart(2);
        String ten = Kit.direct(4) + "1010";
        String one = Kit.direct(1) + "1";
        String less = Kit.direct(1) + "0";
        Kit.reads("differences", x, Kit.pack(ten + one + one + less) + "FFD0" + Kit.pack(one + less), 0);
        int[][] due = {{10, 11, 1}, {1, 0, -1}};
        for (int c = 0; c < 2; c++) {
            for (int block = 0; block < 3; block++) {
                Kit.same("component " + c + ", block " + block, x.get(c, block, 0), due[c][block]);
            }
        }
        Kit.reads("again: nothing is left of the last reading", x, Kit.pack(one + one + D0 + D0) + "FFD0"
                + Kit.pack(D0 + one), 0);
        Kit.same("first", x.get(0, 0, 0), 1);
        Kit.same("behind the restart", x.get(0, 2, 0), 0);
        Kit.same("behind the restart", x.get(1, 2, 0), 1);
    }
}
