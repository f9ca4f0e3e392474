/** Promise 11, THE DATA and the words of a scan, sentence by sentence, at their boundaries. */
public final class WriteEdgesTest {
    private static final String D0 = Kit.direct(0);
    private static final String END = Kit.other(0);
    private static final String ZEROS16 = Kit.other(240);

    public static void main(String[] args) {
        sizesOfDirectOnes();
        sizesOfOthers();
        shiftsOfDirectOnes();
        shiftsOfOthers();
        bitsOfDirectRefinements();
        zerosAheadInWhole();
        zerosAheadInBands();
        zerosAtTheEnd();
        zerosBeginAnew();
        runs();
        runsAheadOfOthers();
        runsAreSentAtRestarts();
        refinementsAroundSixteenZeros();
        refinementsBitsToCome();
        refinementsAtTheEnd();
        refinementsOfBitNine();
        bitsOfRuns();
        numbersOfRestarts();
        whereRestartsAre();
        predictionsBehindRestarts();
        filling();
        zerosBehind255();
        Kit.done();
    }

    private static ScanCoder row(int blocks) {
        ScanCoder x = Kit.coder();
        Kit.yes("frame", x.frame(Math.min(64, 8 * blocks), blocks > 8 ? blocks : 8, 1, 0));
        Kit.same("blocks", x.look(1), blocks);
        return x;
    }

    /** "SIZE of a number is how many bits its amount has (0 for 0). THE BITS OF a number d .." */
    private static void sizesOfDirectOnes() {
        for (int size = 1; size <= 10; size++) {
            int low = 1 << size - 1;
            int high = (1 << size) - 1;
            direct(low, Kit.direct(size) + "1" + Kit.repeat("0", size - 1));
            direct(high, Kit.direct(size) + Kit.repeat("1", size));
            direct(-low, Kit.direct(size) + "0" + Kit.repeat("1", size - 1));
            direct(-high, Kit.direct(size) + Kit.repeat("0", size));
        }
        direct(0, D0);
        direct(-1024, Kit.direct(11) + "01111111111");
        difference(0, 0, D0);
        difference(7, 7, D0);
        difference(-1024, -1024, D0);
        difference(-1, 1023, Kit.direct(11) + "10000000000");
        difference(-1024, 1023, Kit.direct(11) + "11111111111");
        difference(1023, -1024, Kit.direct(11) + "00000000000");
        difference(0, -1024, Kit.direct(11) + "01111111111");
        difference(1023, 0, Kit.direct(10) + "0000000000");
        difference(-1024, -1, Kit.direct(10) + "1111111111");
    }

    private static void direct(int value, String bits) {
        ScanCoder x = Kit.coder();
        x.scan(1, 0, 0, 0, 0);
        Kit.yes("set", x.set(0, 0, 0, value));
        Kit.writes("direct " + value, x, Kit.pack(bits));
        x.scan(1, 0, 63, 0, 0);
        Kit.writes("whole, direct " + value, x, Kit.pack(bits + END));
    }

    /** "d is v - the PREDICTION of its component, which is v then" */
    private static void difference(int first, int second, String bits) {
        ScanCoder x = row(2);
        x.scan(1, 0, 0, 0, 0);
        x.set(0, 0, 0, first);
        Kit.same("write", x.write() > 0 ? 1 : 0, 1);
        x.set(0, 1, 0, second);
        ScanCoder alone = Kit.coder();
        alone.scan(1, 0, 0, 0, 0);
        alone.set(0, 0, 0, first);
        int size = first == 0 ? 0 : Integer.toBinaryString(Math.abs(first)).length();
        String head = Kit.direct(size) + Kit.binary(first > 0 ? first : first - 1, size);
        Kit.writes("the first, " + first, alone, Kit.pack(head));
        Kit.writes(first + ", then " + second, x, Kit.pack(head + bits));
    }

    private static void sizesOfOthers() {
        for (int size = 1; size <= 10; size++) {
            int low = 1 << size - 1;
            int high = (1 << size) - 1;
            other(low, Kit.other(size) + "1" + Kit.repeat("0", size - 1));
            other(high, Kit.other(size) + Kit.repeat("1", size));
            other(-low, Kit.other(size) + "0" + Kit.repeat("1", size - 1));
            other(-high, Kit.other(size) + Kit.repeat("0", size));
        }
    }

    private static void other(int value, String bits) {
        ScanCoder x = Kit.coder();
        Kit.yes("set", x.set(0, 0, 1, value));
        Kit.writes("whole, " + value, x, Kit.pack(D0 + bits + END));
        x.scan(1, 1, 1, 0, 0);
        Kit.writes("band, " + value, x, Kit.pack(bits));
    }

    /** "v is the coefficient shifted BITS to the right (with its sign)": what is below 0 goes down to -1. */
    private static void shiftsOfDirectOnes() {
        for (int bits = 1; bits <= 9; bits++) {
            ScanCoder x = Kit.coder();
            x.scan(1, 0, 0, 0, bits);
            int step = 1 << bits;
            int[] values = {step - 1, step, -1, -step, -step - 1};
            String[] due = {D0, Kit.direct(1) + "1", Kit.direct(1) + "0", Kit.direct(1) + "0", Kit.direct(2) + "01"};
            for (int i = 0; i < values.length; i++) {
                x.set(0, 0, 0, values[i]);
                Kit.writes(values[i] + ", shifted " + bits, x, Kit.pack(due[i]));
            }
        }
    }

    /** "v of a coefficient is its amount shifted BITS to the right, with its sign": what is below 0 goes up to 0. */
    private static void shiftsOfOthers() {
        for (int bits = 1; bits <= 9; bits++) {
            ScanCoder x = Kit.coder();
            x.scan(1, 5, 5, 0, bits);
            int step = 1 << bits;
            int[] values = {step - 1, step, 1 - step, -step};
            String[] due = {END, Kit.other(1) + "1", END, Kit.other(1) + "0"};
            for (int i = 0; i < values.length; i++) {
                x.set(0, 0, 5, values[i]);
                Kit.writes(values[i] + ", shifted " + bits, x, Kit.pack(due[i]));
            }
            x.set(0, 0, 5, -1023);
            Kit.writes("the least, shifted " + bits, x, Kit.pack(Kit.other(10 - bits) + Kit.repeat("0", 10 - bits)));
        }
    }

    /** "one bit, that of the coefficient with number BITS (of its two's complement)" */
    private static void bitsOfDirectRefinements() {
        for (int bits = 0; bits <= 9; bits++) {
            ScanCoder x = new ScanCoder();
            x.scan(1, 0, 0, bits + 1, bits);
            int[] values = {0, -1, -1024, 1023, 1 << bits, -(1 << bits), -(1 << bits) - 1, ~(1 << bits)};
            int[] due = {0, 1, 0, 1, 1, 1, 0, 0};
            for (int i = 0; i < values.length; i++) {
                Kit.yes("set", x.set(0, 0, 0, values[i]));
                Kit.writes("bit " + bits + " of " + values[i], x, Kit.pack("" + due[i]));
            }
        }
    }

    private static String ahead(int zeros) {
        return Kit.repeat(ZEROS16, zeros / 16) + Kit.other(16 * (zeros % 16) + 1);
    }

    /** "as long as R is above 15 the word for 240 comes, and R is 16 less" */
    private static void zerosAheadInWhole() {
        for (int zeros = 0; zeros <= 62; zeros++) {
            ScanCoder x = Kit.coder();
            x.set(0, 0, 1 + zeros, -1);
            Kit.writes(zeros + " zeros", x, Kit.pack(D0 + ahead(zeros) + "0" + (zeros < 62 ? END : "")));
        }
    }

    private static void zerosAheadInBands() {
        int[] firsts = {1, 2, 17, 40, 63};
        for (int first : firsts) {
            for (int k = first; k <= 63; k++) {
                ScanCoder x = Kit.coder();
                x.set(0, 0, k, 1);
                x.set(0, 0, first - 1, 1);
                x.scan(1, first, k, 0, 0);
                Kit.writes(first + " .. " + k, x, Kit.pack(ahead(k - first) + "1"));
                x.scan(1, first, 63, 0, 0);
                Kit.writes(first + " .. 63", x, Kit.pack(ahead(k - first) + "1" + (k < 63 ? END : "")));
                if (k > first) {
                    x.scan(1, first, k - 1, 0, 0);
                    Kit.writes("up to the one ahead of it", x, Kit.pack(END));
                }
            }
        }
    }

    /** "At the end, if R is above 0: in WHOLE the word for 0": one word, for any R above 0, none for 0. */
    private static void zerosAtTheEnd() {
        for (int last = 1; last <= 63; last++) {
            ScanCoder x = Kit.coder();
            for (int k = 1; k <= last; k++) {
                x.set(0, 0, k, 1);
            }
            String ones = Kit.repeat(Kit.other(1) + "1", last);
            Kit.writes("up to " + last, x, Kit.pack(D0 + ones + (last < 63 ? END : "")));
        }
    }

    /** "R is 0" behind one that is not 0. */
    private static void zerosBeginAnew() {
        ScanCoder x = Kit.coder();
        // 15 zeros, 16 zeros, 1 zero, then 14 and 12 more.
        int[] places = {16, 33, 35, 50, 63};
        for (int k : places) {
            x.set(0, 0, k, 1);
        }
        String bits = Kit.other(241) + "1" + ZEROS16 + Kit.other(1) + "1" + Kit.other(17) + "1" + Kit.other(225) + "1"
                + Kit.other(193) + "1";
        Kit.writes("whole", x, Kit.pack(D0 + bits));
        x.scan(1, 1, 63, 0, 0);
        Kit.writes("band", x, Kit.pack(bits));
    }

    private static String run(int blocks) {
        int n = Integer.toBinaryString(blocks).length() - 1;
        return Kit.other(16 * n) + Kit.binary(blocks, n);
    }

    /** "with n = SIZE of it - 1 the word for 16 * n, the lowest n bits of it"; "and at the end, too" */
    private static void runs() {
        for (int blocks : new int[] {1, 2, 3, 4, 5, 6, 7, 8, 16, 24, 32, 40, 48, 56, 64}) {
            ScanCoder x = row(blocks);
            x.scan(1, 1, 63, 0, 0);
            Kit.writes("a run of " + blocks, x, Kit.pack(run(blocks)));
            x.scan(1, 1, 63, 1, 0);
            Kit.writes("a refinement's run of " + blocks, x, Kit.pack(run(blocks)));
        }
    }

    /** "for one that is not 0: in BAND the RUN is sent": ahead of its words, the words for 240 among them. */
    private static void runsAheadOfOthers() {
        for (int blocks : new int[] {2, 3, 4, 5, 8, 16, 24, 32, 40, 64}) {
            ScanCoder x = row(blocks);
            x.scan(1, 1, 40, 0, 0);
            x.set(0, blocks - 1, 34, 1);
            Kit.writes("a run of " + (blocks - 1), x,
                    Kit.pack(run(blocks - 1) + ZEROS16 + ZEROS16 + Kit.other(17) + "1" + END));
            x.scan(1, 1, 34, 0, 0);
            Kit.writes("none behind it", x, Kit.pack(run(blocks - 1) + ZEROS16 + ZEROS16 + Kit.other(17) + "1"));
            x.scan(1, 1, 33, 0, 0);
            Kit.writes("it is not in the band", x, Kit.pack(run(blocks)));
            x.scan(1, 1, 34, 1, 0);
            Kit.writes("refinement", x, Kit.pack(run(blocks - 1) + ZEROS16 + ZEROS16 + Kit.other(17) + "1"));
        }
    }

    /** "It is sent ahead of a RESTART" */
    private static void runsAreSentAtRestarts() {
        for (int interval = 1; interval <= 17; interval++) {
            ScanCoder x = row(16);
            x.scan(1, 1, 63, 0, 0);
            x.restart(interval);
            StringBuilder due = new StringBuilder();
            for (int unit = 0; unit < 16; unit += interval) {
                due.append(unit == 0 ? "" : "FFD" + (unit / interval - 1) % 8);
                due.append(Kit.pack(run(Math.min(interval, 16 - unit))));
            }
            Kit.writes("runs, interval " + interval, x, due.toString());
            x.scan(1, 1, 63, 10, 9);
            Kit.writes("a refinement's runs, interval " + interval, x, due.toString());
        }
    }

    /** "as long as R is above 15 and the coefficient is not behind L" */
    private static void refinementsAroundSixteenZeros() {
        refinement("15 zeros", Kit.other(241) + "1", 16, 1);
        refinement("16 zeros", ZEROS16 + Kit.other(1) + "1", 17, 1);
        refinement("17 zeros", ZEROS16 + Kit.other(17) + "1", 18, 1);
        refinement("31 zeros", ZEROS16 + Kit.other(241) + "0", 32, -1);
        refinement("32 zeros", ZEROS16 + ZEROS16 + Kit.other(1) + "0", 33, -1);
        refinement("48 zeros", Kit.repeat(ZEROS16, 3) + Kit.other(1) + "0", 49, -1);
        refinement("62 zeros", Kit.repeat(ZEROS16, 3) + Kit.other(225) + "0", 63, -1);
        // An old one ahead of the last new one: 240 comes at it, if there are 16 zeros ahead of it already.
        refinement("old behind 15, new", ZEROS16 + "0" + Kit.other(1) + "1", 16, 2, 18, 1);
        refinement("old behind 15, new at once", Kit.other(241) + "1" + "0", 16, 2, 17, 1);
        refinement("old behind 16, new at once", ZEROS16 + Kit.other(1) + "1" + "0", 17, 2, 18, 1);
        refinement("old behind 32, new at once", ZEROS16 + ZEROS16 + Kit.other(1) + "1" + "1", 33, 3, 34, 1);
        // Behind the last new one no 240 comes, however many zeros there are.
        refinement("new, old behind 40", Kit.other(1) + "1" + END + "1", 1, 1, 42, 3);
        refinement("old behind 40 alone", END + "0", 41, -2);
        refinement("old at the last", END + "1", 63, -3);
        // Old ones between zeros do not end the counting of them.
        refinement("8 zeros, old, 8 zeros, new", ZEROS16 + "1" + Kit.other(1) + "1", 9, 3, 18, 1);
        refinement("8 zeros, old, 7 zeros, new", Kit.other(241) + "1" + "1", 9, 3, 17, 1);
    }

    /** A band 1 .. 63's refinement of bit 0; behind the bits comes a run of one if zeros are left, or none. */
    private static void refinement(String what, String bits, int... placesAndValues) {
        ScanCoder x = Kit.coder();
        x.scan(1, 1, 63, 1, 0);
        int lastNew = 0;
        int last = 0;
        for (int i = 0; i < placesAndValues.length; i += 2) {
            Kit.yes("set", x.set(0, 0, placesAndValues[i], placesAndValues[i + 1]));
            last = placesAndValues[i];
            lastNew = Math.abs(placesAndValues[i + 1]) == 1 ? last : lastNew;
        }
        boolean zerosBehind = lastNew == last && last < 63;
        Kit.writes(what, x, Kit.pack(bits + (zerosBehind ? END : "")));
    }

    /** "the word for 240, the bits TO COME (which are none then)"; "a bit, .. the bits TO COME (none then)" */
    private static void refinementsBitsToCome() {
        refinement("they come with the first 240", ZEROS16 + "10" + ZEROS16 + Kit.other(1) + "1", 1, 3, 2, 2, 35, 1);
        refinement("behind the sign", Kit.other(1) + "0" + "10", 1, 3, 2, 2, 3, -1);
        refinement("not twice", Kit.other(1) + "0" + "1" + Kit.other(1) + "1", 1, 3, 2, -1, 3, 1);
        refinement("of a new one none", Kit.other(1) + "1" + Kit.other(1) + "0", 1, 1, 2, -1);
        refinement("the lowest bit of u", END + "01010", 1, 2, 2, 3, 3, -4, 4, -1023, 5, 1022);
        ScanCoder x = Kit.coder();
        x.scan(1, 1, 63, 4, 3);
        int[] values = {7, 8, 15, 16, 23, 24, 31, -32, -40};
        for (int i = 0; i < values.length; i++) {
            x.set(0, 0, 1 + i, values[i]);
        }
        // u is 0, 1, 1, 2, 2, 3, 3, 4, 5.
        Kit.writes("with three bits", x, Kit.pack(Kit.other(17) + "1" + Kit.other(1) + "1" + END + "001101"));
        x.set(0, 0, 10, -15);
        Kit.writes("and a new one behind them", x, Kit.pack(Kit.other(17) + "1" + Kit.other(1) + "1" + Kit.other(1) + "0"
                + "001101" + END));
    }

    /** "At the end, if R is above 0 or there are bits TO COME: the RUN is 1 more" */
    private static void refinementsAtTheEnd() {
        int[][] values = {{1}, {2}, {0}, {1, 0}, {1, 2}, {2, 1}, {2, 0}, {0, 2}, {0, 1}, {0, 0}, {2, 3}};
        String[] due = {Kit.other(1) + "1", END + "0", END, Kit.other(1) + "1" + END, Kit.other(1) + "1" + END + "0",
            Kit.other(1) + "1" + "0", END + "0", END + "0", Kit.other(17) + "1", END, END + "01"};
        for (int i = 0; i < values.length; i++) {
            ScanCoder x = Kit.coder();
            int behind = 30 + values[i].length;
            // What is ahead of the band, and behind it, does not count.
            x.set(0, 0, 29, 1);
            x.set(0, 0, behind, 1);
            for (int k = 0; k < values[i].length; k++) {
                x.set(0, 0, 30 + k, values[i][k]);
            }
            x.scan(1, 30, behind - 1, 1, 0);
            Kit.writes("end " + i, x, Kit.pack(due[i]));
        }
    }

    /** With BITS 9 an amount shifted is 0 or 1: none is old. */
    private static void refinementsOfBitNine() {
        ScanCoder x = Kit.coder();
        x.scan(1, 1, 63, 10, 9);
        x.set(0, 0, 1, 511);
        x.set(0, 0, 2, -512);
        x.set(0, 0, 3, 1023);
        x.set(0, 0, 63, -511);
        Kit.writes("bit 9", x, Kit.pack(Kit.other(17) + "0" + Kit.other(1) + "1" + END));
        x.scan(1, 1, 63, 9, 8);
        // u is 1, 2, 3, .. 1.
        Kit.writes("bit 8", x, Kit.pack(Kit.other(1) + "1" + Kit.repeat(ZEROS16, 1) + "01" + Kit.repeat(ZEROS16, 2)
                + Kit.other(16 * 11 + 1) + "0"));
    }

    /** "these are its bits, behind those it has"; "the lowest n bits of it, its bits; it is 0 then, without bits" */
    private static void bitsOfRuns() {
        ScanCoder x = row(5);
        x.scan(1, 1, 2, 1, 0);
        x.set(0, 0, 1, 3);
        x.set(0, 1, 1, 2);
        x.set(0, 1, 2, 3);
        Kit.writes("bits of two blocks", x, Kit.pack(run(5) + "1" + "01"));
        x.set(0, 3, 1, 1);
        Kit.writes("sent with its bits, then again without", x, Kit.pack(run(3) + "1" + "01" + Kit.other(1) + "1"
                + run(2)));
        x.set(0, 4, 2, -3);
        Kit.writes("the next run has its own bits", x, Kit.pack(run(3) + "101" + Kit.other(1) + "1" + run(2) + "1"));
        x.restart(2);
        Kit.writes("restarts", x, Kit.pack(run(2) + "101") + "FFD0" + Kit.pack(run(1) + Kit.other(1) + "1" + run(1))
                + "FFD1" + Kit.pack(run(1) + "1"));
    }

    /** "208 + m, m being 0 for the first RESTART, 1, .. 7, 0, .. for others" */
    private static void numbersOfRestarts() {
        ScanCoder x = row(64);
        x.scan(1, 0, 0, 1, 0);
        x.restart(1);
        StringBuilder due = new StringBuilder("7F");
        for (int i = 0; i < 63; i++) {
            due.append("FFD").append(i % 8).append("7F");
        }
        Kit.writes("63 of them", x, due.toString());
        x.restart(7);
        due = new StringBuilder("01");
        for (int i = 0; i < 9; i++) {
            due.append("FFD").append(i % 8).append(i < 8 ? "01" : "7F");
        }
        Kit.writes("nine of them", x, due.toString());
    }

    /** "ahead of each UNIT but the first whose number (from 0 on) n divides" */
    private static void whereRestartsAre() {
        for (int units = 1; units <= 8; units++) {
            int[] intervals = {0, 1, 2, 3, units - 1, units, units + 1, 2 * units, 65535};
            for (int interval : intervals) {
                ScanCoder x = row(units);
                x.scan(1, 0, 0, 1, 0);
                x.restart(interval);
                StringBuilder due = new StringBuilder();
                StringBuilder part = new StringBuilder();
                int restarts = 0;
                for (int unit = 0; unit < units; unit++) {
                    if (unit > 0 && interval > 0 && unit % interval == 0) {
                        due.append(Kit.pack(part.toString())).append("FFD").append(restarts % 8);
                        part.setLength(0);
                        restarts++;
                    }
                    part.append("0");
                }
                Kit.writes(units + " units, interval " + interval, x, due + Kit.pack(part.toString()));
            }
        }
        ScanCoder x = new ScanCoder();
        // Four units of 4 + 1 blocks.
        x.frame(32, 32, 2, 3);
        x.scan(3, 0, 0, 1, 0);
        x.restart(3);
        Kit.writes("units, not blocks", x, Kit.pack(Kit.repeat("0", 15)) + "FFD0" + Kit.pack("00000"));
    }

    /** "At the beginning and behind a RESTART the PREDICTION of each component is 0" */
    private static void predictionsBehindRestarts() {
        ScanCoder x = Kit.coder();
        x.frame(24, 8, 2, 0);
        x.scan(3, 0, 0, 0, 0);
        for (int block = 0; block < 3; block++) {
            x.set(0, block, 0, 1);
            x.set(1, block, 0, -1);
        }
        String first = Kit.direct(1) + "1" + Kit.direct(1) + "0";
        Kit.writes("no restarts", x, Kit.pack(first + D0 + D0 + D0 + D0));
        x.restart(2);
        Kit.writes("one", x, Kit.pack(first + D0 + D0) + "FFD0" + Kit.pack(first));
        x.restart(1);
        Kit.writes("two", x, Kit.pack(first) + "FFD0" + Kit.pack(first) + "FFD1" + Kit.pack(first));
    }

    /** "the bits before it end with a whole byte, by as many 1s as needed .. So end the bits of the last UNIT." */
    private static void filling() {
        for (int blocks = 1; blocks <= 8; blocks++) {
            ScanCoder x = row(blocks);
            x.scan(1, 0, 0, 1, 0);
            Kit.writes(blocks + " bits", x, String.format("%02X", (1 << 8 - blocks) - 1));
        }
        ScanCoder x = row(16);
        x.scan(1, 0, 0, 1, 0);
        for (int interval = 1; interval <= 15; interval++) {
            x.restart(interval);
            String part = Kit.pack(Kit.repeat("0", interval));
            StringBuilder due = new StringBuilder(part);
            int unit = interval;
            for (int i = 0; unit < 16; i++) {
                int left = Math.min(interval, 16 - unit);
                due.append("FFD").append(i % 8).append(Kit.pack(Kit.repeat("0", left)));
                unit += left;
            }
            Kit.writes("interval " + interval, x, due.toString());
        }
    }

    /** "behind a byte 255 comes a byte 0, which is no bits": a byte of the filling's 1s, too, and ahead of a RESTART. */
    private static void zerosBehind255() {
        for (int blocks = 1; blocks <= 8; blocks++) {
            ScanCoder x = row(blocks);
            x.scan(1, 0, 0, 1, 0);
            for (int block = 0; block < blocks; block++) {
                x.set(0, block, 0, 1);
            }
            Kit.writes(blocks + " ones", x, "FF00");
            x.set(0, blocks - 1, 0, 0);
            Kit.writes("but the last", x, String.format("%02X", 255 - (1 << 8 - blocks)));
            x.set(0, blocks - 1, 0, 1);
            x.restart(1);
            StringBuilder due = new StringBuilder("FF00");
            for (int i = 1; i < blocks; i++) {
                due.append("FFD").append(i - 1).append("FF00");
            }
            Kit.writes("with restarts", x, due.toString());
        }
        ScanCoder x = row(16);
        x.scan(1, 0, 0, 1, 0);
        for (int block = 4; block < 12; block++) {
            x.set(0, block, 0, 1);
        }
        Kit.writes("eight 1s in two bytes", x, "0FF0");
    }
}
