/** Promises 9, 10 and 15 to 18, sentence by sentence, at their boundaries. */
public final class ValueEdgesTest {
    private static final int LEAST = Integer.MIN_VALUE;
    private static final int MOST = Integer.MAX_VALUE;

    public static void main(String[] args) {
        values();
        eachCoefficient();
        places();
        gives();
        bytesHighestFirst();
        cuts();
        bytes();
        cutThenGiven();
        looks();
        looksOfComponents();
        countOfOthersThanZero();
        Kit.done();
    }

    /** "0, the DIRECT one, is -1024 .. 1023, the others -1023 .. 1023"; "or v can't be" */
    private static void values() {
        ScanCoder x = new ScanCoder();
        int[] values = {-1026, -1025, -1024, -1023, -1022, -1, 0, 1, 1022, 1023, 1024, 1025, 32767, 32768, -32768,
            65535, 65536, 65537, -65536, LEAST, MOST};
        int[] places = {0, 1, 2, 62, 63};
        for (int k : places) {
            int before = 0;
            for (int v : values) {
                boolean can = v <= 1023 && v >= (k == 0 ? -1024 : -1023);
                Kit.same("coefficient " + k + " as " + v, x.set(0, 0, k, v) ? 1 : 0, can ? 1 : 0);
                before = can ? v : before;
                Kit.same("coefficient " + k, x.get(0, 0, k), before);
            }
        }
    }

    /** "A block has 64 COEFFICIENTS 0 .. 63, all 0 at first" */
    private static void eachCoefficient() {
        ScanCoder x = new ScanCoder();
        for (int k = -2; k <= 66; k++) {
            boolean can = k >= 0 && k <= 63;
            Kit.same("coefficient " + k, x.get(0, 0, k), 0);
            Kit.same("coefficient " + k, x.set(0, 0, k, k + 100) ? 1 : 0, can ? 1 : 0);
            Kit.same("so many are not 0", x.look(4), Math.max(0, Math.min(64, k + 1)));
        }
        for (int k = -2; k <= 66; k++) {
            Kit.same("coefficient " + k, x.get(0, 0, k), k >= 0 && k <= 63 ? k + 100 : 0);
        }
    }

    /** "false if there is none such"; "0 if there is none such" */
    private static void places() {
        ScanCoder x = new ScanCoder();
        // Component 0 has 4 by 2 blocks, component 1 has 2 by 1.
        x.frame(17, 9, 2, 3);
        int[] blocks = {8, 2};
        for (int c = 0; c < 2; c++) {
            for (int block = 0; block < blocks[c]; block++) {
                for (int k = 0; k < 64; k += 63) {
                    x.set(c, block, k, 500);
                }
            }
        }
        for (int c = -1; c <= 4; c++) {
            for (int block = -1; block <= 9; block++) {
                boolean can = c >= 0 && c < 2 && block >= 0 && block < blocks[c];
                Kit.same("get", x.get(c, block, 63), can ? 500 : 0);
                Kit.same("get", x.get(c, block, 64), 0);
                Kit.same("get", x.get(c, block, -1), 0);
                Kit.same("set", x.set(c, block, 0, 501) ? 1 : 0, can ? 1 : 0);
            }
        }
        for (int far : new int[] {LEAST, LEAST + 1, MOST, 1 << 25, 1 << 26, 1 << 30, -64}) {
            Kit.no("set", x.set(far, 0, 0, 1));
            Kit.no("set", x.set(0, far, 0, 1));
            Kit.no("set", x.set(0, 0, far, 1));
            Kit.same("get", x.get(far, 0, 0), 0);
            Kit.same("get", x.get(0, far, 0), 0);
            Kit.same("get", x.get(0, 0, far), 0);
        }
        Kit.same("two in each of ten", x.look(4), 20);
    }

    /** "n bytes of v, 1 .. 8 .. false if n is not so" */
    private static void gives() {
        for (int n = -3; n <= 12; n++) {
            ScanCoder x = new ScanCoder();
            boolean can = n >= 1 && n <= 8;
            Kit.same("give " + n, x.give(0x0102030405060708L, n) ? 1 : 0, can ? 1 : 0);
            Kit.same("bytes", x.look(0), can ? n : 0);
            Kit.sameText("data", Kit.dump(x), can ? "0102030405060708".substring(16 - 2 * n) : "");
        }
        ScanCoder x = new ScanCoder();
        for (int far : new int[] {LEAST, LEAST + 8, MOST, MOST - 7, 256, -8, 1 << 16}) {
            Kit.no("far off", x.give(-1, far));
        }
        Kit.same("bytes", x.look(0), 0);
    }

    /** "the highest first (of its lowest n)" */
    private static void bytesHighestFirst() {
        for (int n = 1; n <= 8; n++) {
            ScanCoder x = new ScanCoder();
            x.give(0xFFEEDDCCBBAA9988L, n);
            Kit.sameText("above 127", Kit.dump(x), "FFEEDDCCBBAA9988".substring(16 - 2 * n));
            x.give(-1L << 8 * n - 1, n);
            Kit.same("behind it", x.data(n), 128);
            Kit.same("bytes", x.look(0), 2 * n);
        }
    }

    /** "The DATA have their first n bytes alone: true; false if they have fewer, or n is below 0." */
    private static void cuts() {
        for (int n = -2; n <= 8; n++) {
            ScanCoder x = new ScanCoder();
            x.give(0x0A0B0C0D0E0FL, 6);
            boolean can = n >= 0 && n <= 6;
            Kit.same("cut " + n, x.cut(n) ? 1 : 0, can ? 1 : 0);
            Kit.sameText("data", Kit.dump(x), "0A0B0C0D0E0F".substring(0, can ? 2 * n : 12));
        }
        ScanCoder x = new ScanCoder();
        Kit.yes("none of none", x.cut(0));
        Kit.no("one of none", x.cut(1));
        Kit.no("below none", x.cut(-1));
        Kit.no("far off", x.cut(MOST));
        Kit.no("far off", x.cut(LEAST));
    }

    /** "Byte k of the DATA; NONE if there is none." */
    private static void bytes() {
        ScanCoder x = new ScanCoder();
        Kit.same("none at first", x.data(0), -1);
        Kit.same("none at first", x.data(-1), -1);
        x.give(0x007F80FFL, 4);
        int[] due = {-1, -1, 0, 127, 128, 255, -1, -1};
        for (int k = -2; k <= 5; k++) {
            Kit.same("byte " + k, x.data(k), due[k + 2]);
        }
        Kit.same("far off", x.data(MOST), -1);
        Kit.same("far off", x.data(LEAST), -1);
        // Room for more bytes may be there, but no bytes.
        for (int i = 0; i < 20; i++) {
            x.give(-1, 8);
        }
        x.cut(1);
        for (int k = 1; k < 170; k++) {
            Kit.same("gone", x.data(k), -1);
        }
    }

    private static void cutThenGiven() {
        ScanCoder x = new ScanCoder();
        for (int i = 0; i < 16; i++) {
            Kit.yes("give", x.give(0x1111111111111111L * i, 8));
        }
        Kit.yes("cut", x.cut(64));
        Kit.yes("give", x.give(0xABL, 1));
        Kit.same("bytes", x.look(0), 65);
        Kit.same("the last that stayed", x.data(63), 0x77);
        Kit.same("the new one", x.data(64), 0xAB);
        Kit.same("no old one", x.data(65), -1);
        Kit.yes("cut all", x.cut(0));
        Kit.yes("give", x.give(0xCDL, 1));
        Kit.sameText("data", Kit.dump(x), "CD");
    }

    /** "NONE for any other which." */
    private static void looks() {
        ScanCoder x = new ScanCoder();
        int[] first = {0, 1, 1, 0, 0, 0, -1, -1, 1, 1, 1, 1, -1};
        for (int which = 0; which < first.length; which++) {
            Kit.same("a new object's " + which, x.look(which), first[which]);
        }
        for (int which = -40; which < 0; which++) {
            Kit.same("below 0", x.look(which), -1);
        }
        for (int which = 12; which < 100; which++) {
            Kit.same("no further component", x.look(which), -1);
        }
        for (int far : new int[] {LEAST, LEAST + 7, LEAST + 8, LEAST + 12, MOST, MOST - 3, 1 << 30}) {
            Kit.same("far off", x.look(far), -1);
        }
    }

    /** "8 + 4 * c: blocks across of component c, + 1 down, + 2 OF ITS OWN across, + 3 down" */
    private static void looksOfComponents() {
        for (int many = 1; many <= 4; many++) {
            ScanCoder x = new ScanCoder();
            // The first one is 2 by 2: 4 by 2 blocks, 3 by 2 of its own; the others have 2 by 1, all their own.
            x.frame(17, 9, many, 3);
            int[] firstOne = {4, 2, 3, 2};
            int[] others = {2, 1, 2, 1};
            for (int which = 8; which < 40; which++) {
                int c = which / 4 - 2;
                int due = c >= many ? -1 : c == 0 ? firstOne[which % 4] : others[which % 4];
                Kit.same("look " + which + " of " + many, x.look(which), due);
            }
            Kit.same("blocks", x.look(1), 8 + 2 * (many - 1));
        }
    }

    /** "4: coefficients that are not 0", of all components and of blocks that are not OF ITS OWN, too. */
    private static void countOfOthersThanZero() {
        ScanCoder x = new ScanCoder();
        x.frame(8, 8, 4, 0xFF);
        for (int c = 0; c < 4; c++) {
            for (int block = 0; block < 4; block++) {
                x.set(c, block, 0, -1024);
                x.set(c, block, 63, c - 1);
            }
        }
        Kit.same("all but the four that are 0", x.look(4), 28);
        x.set(3, 3, 63, 0);
        Kit.same("one less", x.look(4), 27);
        x.set(3, 3, 63, 0);
        Kit.same("not twice", x.look(4), 27);
    }
}
