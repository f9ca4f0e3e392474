/** Promises 6 to 8 and THE SCAN, sentence by sentence, at their boundaries. */
public final class ScanEdgesTest {
    private static final int LEAST = Integer.MIN_VALUE;
    private static final int MOST = Integer.MAX_VALUE;
    private static ScanCoder x = new ScanCoder();
    private static int calls = 0;

    public static void main(String[] args) {
        firstAndLast();
        beforeAndBits();
        farOff();
        components();
        wholeOfComponentZeroAtFirst();
        unitsOfOneAndOfSeveral();
        tables();
        tablesAtFirst();
        intervals();
        aScanLeavesTheRest();
        Kit.done();
    }

    /** An object of one component that has not been called too often. */
    private static ScanCoder fresh() {
        calls++;
        if (calls % 400 == 0) {
            x = new ScanCoder();
        }
        return x;
    }

    private static void scan(boolean can, int first, int last, int before, int bits) {
        Kit.same("scan " + first + " .. " + last + ", " + before + ", " + bits,
                fresh().scan(1, first, last, before, bits) ? 1 : 0, can ? 1 : 0);
    }

    /** "WHOLE: 0, 63"; "DIRECT: 0, 0"; "BAND: .. FIRST 1 .. 63, LAST FIRST .. 63" */
    private static void firstAndLast() {
        for (int first = -2; first <= 66; first++) {
            for (int last = -2; last <= 66; last++) {
                boolean band = first >= 1 && first <= 63 && last >= first && last <= 63;
                boolean direct = first == 0 && last == 0;
                boolean whole = first == 0 && last == 63;
                scan(band || direct || whole, first, last, 0, 0);
                scan(band || direct, first, last, 1, 0);
                scan(band || direct, first, last, 0, 9);
                scan(band || direct, first, last, 10, 9);
                scan(false, first, last, 0, 10);
                scan(false, first, last, 11, 10);
                scan(false, first, last, 0, -1);
                scan(false, first, last, -1, -2);
            }
        }
    }

    /** "and BEFORE 0, or BITS + 1 (a REFINEMENT)"; "BEFORE likewise"; "BITS are 0 .. 9"; "WHOLE: 0, 63, 0, 0" */
    private static void beforeAndBits() {
        for (int before = -3; before <= 13; before++) {
            for (int bits = -3; bits <= 12; bits++) {
                boolean can = bits >= 0 && bits <= 9 && (before == 0 || before == bits + 1);
                scan(can, 0, 0, before, bits);
                scan(can, 1, 63, before, bits);
                scan(can, 1, 1, before, bits);
                scan(can, 63, 63, before, bits);
                scan(before == 0 && bits == 0, 0, 63, before, bits);
            }
        }
    }

    private static void farOff() {
        int[] far = {LEAST, LEAST + 1, MOST - 1, MOST, 1 << 16, 1 << 8, -64};
        for (int one : far) {
            scan(false, one, 63, 0, 0);
            scan(false, 0, one, 0, 0);
            scan(false, 1, one, 0, 0);
            scan(false, one, one, 0, 0);
            scan(false, 0, 0, one, 0);
            scan(false, 0, 0, 0, one);
            scan(false, 1, 5, one, 0);
            scan(false, 1, 5, 0, one);
            scan(false, 0, 0, one + 1, one);
            scan(false, 1, 5, one + 1, one);
        }
    }

    /** "bit c of mask for component c. False if there is none such"; "some components"; "BAND: of one component" */
    private static void components() {
        for (int many = 1; many <= 4; many++) {
            ScanCoder y = new ScanCoder();
            y.frame(8, 8, many, 0);
            for (int mask = -2; mask <= 33; mask++) {
                boolean can = mask >= 1 && mask < 1 << many;
                boolean one = can && (mask == 1 || mask == 2 || mask == 4 || mask == 8);
                String what = "mask " + mask + " of " + many;
                Kit.same(what + ", whole", y.scan(mask, 0, 63, 0, 0) ? 1 : 0, can ? 1 : 0);
                Kit.same(what + ", direct", y.scan(mask, 0, 0, 0, 0) ? 1 : 0, can ? 1 : 0);
                Kit.same(what + ", direct refinement", y.scan(mask, 0, 0, 1, 0) ? 1 : 0, can ? 1 : 0);
                Kit.same(what + ", band", y.scan(mask, 1, 63, 0, 0) ? 1 : 0, one ? 1 : 0);
                Kit.same(what + ", band refinement", y.scan(mask, 1, 63, 1, 0) ? 1 : 0, one ? 1 : 0);
            }
            for (int bit = many; bit < 32; bit++) {
                Kit.no("bit " + bit, y.scan(1 << bit, 0, 63, 0, 0));
                Kit.no("bit " + bit + " and component 0", y.scan(1 << bit | 1, 0, 0, 0, 0));
                Kit.no("bit " + bit, y.scan(1 << bit, 1, 1, 0, 0));
            }
        }
    }

    /** "At first it is WHOLE of component 0." */
    private static void wholeOfComponentZeroAtFirst() {
        ScanCoder y = new ScanCoder();
        y.set(0, 0, 0, 1);
        y.set(0, 0, 63, 1);
        Kit.same("a direct one, three times 240, one", y.tally(), 5);
        y.frame(8, 8, 2, 0);
        y.set(1, 0, 63, 1);
        Kit.same("component 0 alone", y.tally(), 2);
    }

    /** "With one component it goes over the blocks OF ITS OWN .. With several it goes over units" */
    private static void unitsOfOneAndOfSeveral() {
        ScanCoder y = new ScanCoder();
        // Two units of 2 by 1: component 0 has 2 by 2, component 1 has 1 by 1.
        y.frame(24, 8, 2, 3);
        y.scan(1, 0, 63, 0, 0);
        Kit.same("own ones: three", y.look(2), 3);
        Kit.same("their words", y.tally(), 6);
        y.scan(2, 0, 63, 0, 0);
        Kit.same("own ones of the other: two", y.look(2), 2);
        Kit.same("their words", y.tally(), 4);
        y.scan(3, 0, 63, 0, 0);
        Kit.same("units: two", y.look(2), 2);
        Kit.same("words of five blocks each", y.tally(), 20);
        y.scan(1, 1, 63, 0, 0);
        Kit.same("a band's units", y.look(2), 3);
        Kit.same("a run", y.tally(), 1);
        // One component of 2 by 2 still is one: its blocks are units each.
        y.frame(9, 9, 1, 3);
        Kit.same("four of its own", y.look(2), 4);
        y.frame(8, 8, 1, 3);
        Kit.same("one of its own, of four", y.look(2), 1);
        y.frame(64, 64, 3, 63);
        y.scan(7, 0, 63, 0, 0);
        Kit.same("units of twelve blocks", y.look(2), 16);
        Kit.same("words of 192 blocks", y.tally(), 384);
    }

    /** "Component c has these TABLES, 0 .. 3 and 4 .. 7: true; false if there is none such." */
    private static void tables() {
        for (int many = 1; many <= 4; many++) {
            ScanCoder y = new ScanCoder();
            y.frame(8, 8, many, 0);
            for (int c = -1; c <= 5; c++) {
                for (int t = -1; t <= 9; t++) {
                    boolean there = c >= 0 && c < many;
                    boolean direct = there && t >= 0 && t <= 3;
                    boolean other = there && t >= 4 && t <= 7;
                    String what = "table " + t + " of component " + c + " of " + many;
                    Kit.same(what + ", direct", y.tables(c, t, 4) ? 1 : 0, direct ? 1 : 0);
                    Kit.same(what + ", other", y.tables(c, 0, t) ? 1 : 0, other ? 1 : 0);
                }
            }
            for (int far : new int[] {LEAST, MOST, 1 << 8, 1 << 16}) {
                Kit.no("far off", y.tables(far, 0, 4));
                Kit.no("far off", y.tables(0, far, 4));
                Kit.no("far off", y.tables(0, 0, far));
            }
        }
    }

    /** "a component has a direct one of 0 .. 3 and another one of 4 .. 7 (0 and 4 at first)" */
    private static void tablesAtFirst() {
        ScanCoder y = new ScanCoder();
        y.frame(8, 8, 4, 0);
        for (int c = 0; c < 4; c++) {
            y.scan(1 << c, 0, 63, 0, 0);
            y.tally();
            Kit.same("direct one of " + c, y.often(0, 0), 1);
            Kit.same("other one of " + c, y.often(4, 0), 1);
        }
        for (int c = 0; c < 4; c++) {
            Kit.yes("tables", y.tables(c, 3 - c, 4 + c));
        }
        y.scan(15, 0, 63, 0, 0);
        y.tally();
        for (int t = 0; t < 8; t++) {
            Kit.same("each table once", y.often(t, 0), 1);
        }
        for (int c = 0; c < 4; c++) {
            y.scan(1 << c, 0, 63, 0, 0);
            y.tally();
            Kit.same("direct one of " + c, y.often(3 - c, 0), 1);
            Kit.same("other one of " + c, y.often(4 + c, 0), 1);
        }
    }

    /** "The INTERVAL, 0 .. 65535: true; false if it is not so." */
    private static void intervals() {
        int[] can = {0, 1, 2, 255, 256, 32767, 32768, 65534, 65535};
        int[] not = {-1, -2, 65536, 65537, 1 << 17, LEAST, MOST};
        ScanCoder y = new ScanCoder();
        for (int interval : can) {
            Kit.yes("interval " + interval, y.restart(interval));
            Kit.same("interval", y.look(3), interval);
            for (int wrong : not) {
                Kit.no("interval " + wrong, y.restart(wrong));
            }
            Kit.same("interval", y.look(3), interval);
        }
    }

    private static void aScanLeavesTheRest() {
        ScanCoder y = new ScanCoder();
        y.frame(8, 8, 2, 0);
        y.tables(1, 2, 6);
        y.restart(9);
        y.set(1, 0, 5, 1);
        y.give(0x1234, 2);
        for (int bits = 0; bits <= 9; bits++) {
            Kit.yes("scan", y.scan(3, 0, 0, 0, bits));
            Kit.yes("scan", y.scan(2, 5, 5, bits + 1, bits));
        }
        Kit.yes("scan", y.scan(2, 0, 63, 0, 0));
        Kit.same("interval", y.look(3), 9);
        Kit.same("data", y.look(0), 2);
        Kit.same("coefficients", y.look(4), 1);
        Kit.same("words", y.tally(), 3);
        Kit.same("its direct table", y.often(2, 0), 1);
        Kit.same("its other table", y.often(6, 65), 1);
    }
}
