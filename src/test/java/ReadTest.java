/** Promise 12: what is read where nothing is wrong. */
public final class ReadTest {
    private static final String D0 = Kit.direct(0);
    private static final String END = Kit.other(0);
    private static final String ZEROS16 = Kit.other(240);

    public static void main(String[] args) {
        direct();
        directRefinement();
        whole();
        wholeTakesWhatWriteWouldNot();
        otherBlocksStay();
        bands();
        runs();
        refinement();
        refinementOfWhatIsThere();
        refinementRuns();
        restarts();
        Kit.done();
    }

    private static void coefficients(String what, ScanCoder x, int block, int... placesAndValues) {
        for (int i = 0; i < placesAndValues.length; i += 2) {
            int k = placesAndValues[i];
            Kit.same(what + ", block " + block + ", " + k, x.get(0, block, k), placesAndValues[i + 1]);
        }
    }

    private static void direct() {
        ScanCoder x = Kit.coder();
        x.frame(32, 8, 1, 0);
        x.scan(1, 0, 0, 0, 0);
        x.set(0, 0, 1, 77);
        Kit.reads("direct", x, Kit.pack(Kit.direct(11) + "01111111111" + Kit.direct(11) + "11111111111"
                + D0 + Kit.direct(2) + "00"), 0);
        for (int b = 0; b < 4; b++) {
            coefficients("direct", x, b, 0, new int[] {-1024, 1023, 1023, 1020}[b]);
        }
        coefficients("others stay", x, 0, 1, 77);
        x.scan(1, 0, 0, 0, 3);
        Kit.reads("three bits", x, Kit.pack(Kit.direct(1) + "0" + Kit.direct(2) + "10" + D0 + Kit.direct(7) + "1111110"), 0);
        for (int b = 0; b < 4; b++) {
            coefficients("shifted", x, b, 0, new int[] {-8, 8, 8, 127 * 8}[b]);
        }
        x.scan(1, 0, 0, 0, 9);
        Kit.reads("nine bits", x, Kit.pack(Kit.direct(2) + "01" + Kit.direct(2) + "11" + Kit.direct(1) + "0" + D0), 0);
        for (int b = 0; b < 4; b++) {
            coefficients("shifted", x, b, 0, new int[] {-1024, 512, 0, 0}[b]);
        }
    }

    private static void directRefinement() {
        ScanCoder x = new ScanCoder();
        x.frame(40, 8, 1, 0);
        int[] before = {0, -8, 4, -1024, 0};
        for (int b = 0; b < 5; b++) {
            x.set(0, b, 0, before[b]);
        }
        x.scan(1, 0, 0, 3, 2);
        Kit.reads("bit 2", x, Kit.pack("11010"), 0);
        for (int b = 0; b < 5; b++) {
            coefficients("bit 2", x, b, 0, new int[] {4, -4, 4, -1020, 0}[b]);
        }
        Kit.reads("a bit 0 takes nothing away, a bit that is there stays", x, Kit.pack("01111"), 0);
        for (int b = 0; b < 5; b++) {
            coefficients("bit 2", x, b, 0, new int[] {4, -4, 4, -1020, 4}[b]);
        }
    }

    private static void whole() {
        ScanCoder x = Kit.coder();
        x.set(0, 0, 40, 9);
        x.set(0, 0, 0, 9);
        Kit.reads("whole", x, Kit.pack(Kit.direct(2) + "00" + Kit.other(2) + "00" + Kit.other(16 * 15 + 3) + "101"
                + ZEROS16 + Kit.other(10) + "0000000000" + END), 0);
        coefficients("whole", x, 0, 0, -3, 1, -3, 17, 5, 34, -1023, 40, 0);
        Kit.same("no others", x.look(4), 4);
        Kit.reads("up to the last", x, Kit.pack(D0 + Kit.repeat(ZEROS16, 3) + Kit.other(16 * 14 + 10) + "1111111111"), 0);
        coefficients("up to the last", x, 0, 0, 0, 63, 1023);
        Kit.same("no others", x.look(4), 1);
    }

    private static void wholeTakesWhatWriteWouldNot() {
        ScanCoder x = Kit.coder();
        x.set(0, 0, 63, 1);
        Kit.reads("zeros ahead of the end", x, Kit.pack(D0 + ZEROS16 + END), 0);
        Kit.same("all 0", x.look(4), 0);
        Kit.reads("sixteen zeros up to the last", x, Kit.pack(D0 + ZEROS16 + ZEROS16 + Kit.other(16 * 14 + 1) + "1" + ZEROS16), 0);
        coefficients("sixteen zeros", x, 0, 47, 1);
        Kit.same("no others", x.look(4), 1);
    }

    private static void otherBlocksStay() {
        ScanCoder x = Kit.coder();
        x.frame(9, 8, 2, 3);
        for (int b = 0; b < 4; b++) {
            x.set(0, b, 5, 50 + b);
        }
        x.set(1, 0, 5, 60);
        Kit.reads("component 0 alone", x, Kit.pack(D0 + END + D0 + END), 0);
        int[] due = {0, 0, 52, 53};
        for (int b = 0; b < 4; b++) {
            coefficients("component 0", x, b, 5, due[b]);
        }
        Kit.same("component 1", x.get(1, 0, 5), 60);
        x.scan(3, 0, 63, 0, 0);
        Kit.reads("both", x, Kit.pack(Kit.repeat(D0 + END, 3) + Kit.direct(1) + "1" + END + Kit.direct(2) + "10"
                + Kit.other(1) + "1" + END), 0);
        coefficients("fourth block", x, 3, 0, 1, 5, 0);
        Kit.same("component 1", x.get(1, 0, 0), 2);
        Kit.same("component 1", x.get(1, 0, 1), 1);
        Kit.same("no others", x.look(4), 3);
    }

    private static void bands() {
        ScanCoder x = Kit.coder();
        for (int k = 3; k <= 12; k++) {
            x.set(0, 0, k, 99);
        }
        x.scan(1, 5, 10, 0, 2);
        Kit.reads("band", x, Kit.pack(Kit.other(16 + 1) + "0" + Kit.other(32 + 8) + "11111111" + END), 0);
        coefficients("band", x, 0, 3, 99, 4, 99, 5, 0, 6, -4, 7, 0, 8, 0, 9, 1020, 10, 0, 11, 99, 12, 99);
        Kit.reads("to its end", x, Kit.pack(Kit.other(80 + 1) + "1"), 0);
        coefficients("to its end", x, 0, 4, 99, 6, 0, 9, 0, 10, 4, 11, 99);
        x.scan(1, 1, 16, 0, 0);
        Kit.reads("sixteen zeros", x, Kit.pack(ZEROS16), 0);
        Kit.same("all 0", x.look(4), 0);
    }

    private static void runs() {
        ScanCoder x = Kit.coder();
        x.frame(64, 8, 1, 0);
        for (int b = 0; b < 8; b++) {
            x.set(0, b, 1, 5);
            x.set(0, b, 4, 5);
        }
        x.scan(1, 1, 3, 0, 0);
        Kit.reads("runs", x, Kit.pack(Kit.other(1) + "1" + Kit.other(32) + "01" + Kit.other(16 + 1) + "0" + Kit.other(0)
                + Kit.other(1) + "0" + Kit.other(1) + "0" + Kit.other(1) + "0" + Kit.other(0)), 0);
        // Block 0 has one and begins a run of five; 5 has one and ends; 6 has three; 7 none.
        coefficients("runs", x, 0, 1, 1, 2, 0, 4, 5);
        coefficients("runs", x, 4, 1, 0, 2, 0, 4, 5);
        coefficients("runs", x, 5, 1, 0, 2, -1, 3, 0);
        coefficients("runs", x, 6, 1, -1, 2, -1, 3, -1);
        coefficients("runs", x, 7, 1, 0, 4, 5);
        Kit.same("no others", x.look(4), 13);
    }

    private static void refinement() {
        ScanCoder x = Kit.coder();
        x.set(0, 0, 2, 4);
        x.set(0, 0, 5, -4);
        x.set(0, 0, 63, -1020);
        x.scan(1, 1, 63, 2, 1);
        Kit.reads("refinement", x, Kit.pack(Kit.other(32 + 1) + "0" + "0" + Kit.other(16 + 1) + "1" + "1" + END + "1"), 0);
        coefficients("refinement", x, 0, 1, 0, 2, 4, 3, 0, 4, -2, 5, -6, 6, 0, 7, 2, 63, -1022);
        Kit.same("no others", x.look(4), 5);
        ScanCoder y = Kit.coder();
        y.set(0, 0, 5, -4);
        y.set(0, 0, 20, 4);
        y.scan(1, 1, 63, 1, 0);
        // The sixteenth 0 is coefficient 17; 18, 19 and 21 are 0, 22 is the next.
        Kit.reads("sixteen zeros", y, Kit.pack(ZEROS16 + "1" + Kit.other(48 + 1) + "1" + "1" + END), 0);
        coefficients("sixteen zeros", y, 0, 5, -5, 17, 0, 20, 5, 22, 1);
        Kit.same("no others", y.look(4), 3);
    }

    private static void refinementOfWhatIsThere() {
        ScanCoder x = Kit.coder();
        x.set(0, 0, 1, 3);
        x.set(0, 0, 2, -2);
        x.set(0, 0, 3, -5);
        x.set(0, 0, 4, 1);
        x.scan(1, 1, 5, 2, 1);
        Kit.reads("bits that are there stay", x, Kit.pack(END + "1111"), 0);
        coefficients("there", x, 0, 1, 3, 2, -2, 3, -7, 4, 3);
        Kit.reads("bits 0 change nothing", x, Kit.pack(Kit.other(1) + "0" + "0000"), 0);
        coefficients("there", x, 0, 1, 3, 2, -2, 3, -7, 4, 3, 5, -2);
        x.scan(1, 1, 5, 10, 9);
        Kit.reads("bit 9", x, Kit.pack(END + "11111"), 0);
        coefficients("bit 9", x, 0, 1, 515, 2, -514, 3, -519, 4, 515, 5, -514);
        coefficients("direct stays", x, 0, 0, 0);
    }

    private static void refinementRuns() {
        ScanCoder x = Kit.coder();
        x.frame(40, 8, 1, 0);
        x.scan(1, 1, 3, 1, 0);
        x.set(0, 0, 1, 2);
        x.set(0, 1, 2, 2);
        x.set(0, 1, 3, -2);
        x.set(0, 3, 2, 2);
        x.set(0, 4, 4, 2);
        Kit.reads("runs", x, Kit.pack(Kit.other(16) + "1" + "0" + "01" + Kit.other(16 + 1) + "1" + "1" + END), 0);
        coefficients("runs", x, 0, 1, 2);
        coefficients("runs", x, 1, 2, 2, 3, -3);
        coefficients("runs", x, 3, 1, 0, 2, 3, 3, 1);
        coefficients("runs", x, 4, 1, 0, 4, 2);
        // A run that begins within a block leaves what is ahead of it alone.
        Kit.reads("within a block", x, Kit.pack(Kit.other(1) + "0" + "1" + Kit.other(32) + "01" + "1" + "1" + "11"), 0);
        coefficients("within", x, 0, 1, 3, 2, -1, 3, 0);
        coefficients("within", x, 3, 2, 3, 3, 1);
        Kit.same("no others", x.look(4), 7);
    }

    private static void restarts() {
        ScanCoder x = Kit.coder();
        x.frame(64, 16, 1, 0);
        x.scan(1, 0, 0, 0, 0);
        x.restart(1);
        StringBuilder hex = new StringBuilder();
        for (int b = 0; b < 16; b++) {
            hex.append(b == 0 ? "" : "FFD" + (b - 1) % 8).append(Kit.pack(Kit.direct(1) + "1"));
        }
        Kit.reads("a restart ahead of each", x, hex.toString(), 0);
        for (int b = 0; b < 16; b++) {
            coefficients("predictions begin anew", x, b, 0, 1);
        }
        x.restart(8);
        String part = Kit.pack(Kit.direct(2) + "10" + Kit.repeat(D0, 7));
        Kit.reads("two parts", x, part + "FFD0" + part, 0);
        for (int b = 0; b < 16; b++) {
            coefficients("two parts", x, b, 0, 2);
        }
        x.frame(16, 8, 1, 0);
        x.scan(1, 0, 0, 0, 0);
        x.restart(1);
        Kit.reads("a filled byte 255", x, "AFFF00" + "FFD0" + "AFFF00", 0);
        coefficients("a filled byte 255", x, 0, 0, 1023);
        coefficients("a filled byte 255", x, 1, 0, 1023);
        x.scan(1, 1, 2, 0, 0);
        Kit.reads("a band's parts", x, Kit.pack(Kit.other(16 + 1) + "1") + "FFD0" + Kit.pack(END), 0);
        coefficients("a band's parts", x, 0, 2, 1);
    }
}
