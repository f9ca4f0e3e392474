/** Promise 2 and THE FRAME, sentence by sentence, at their boundaries. */
public final class FrameEdgesTest {
    public static void main(String[] args) {
        sides();
        components();
        bitsOfShape();
        unitsAndBlocks();
        atMost192();
        lastBlocks();
        ownOnesAreTheFirstOfTheFirstRows();
        asAtFirst();
        Kit.done();
    }

    /** "WIDTH and HEIGHT 1 .. 64" */
    private static void sides() {
        for (int side = -2; side <= 67; side++) {
            boolean can = side >= 1 && side <= 64;
            ScanCoder x = new ScanCoder();
            Kit.same("width " + side, x.frame(side, 8, 1, 0) ? 1 : 0, can ? 1 : 0);
            Kit.same("across", x.look(8), can ? least(side, 8) : 1);
            Kit.same("height " + side, x.frame(8, side, 1, 0) ? 1 : 0, can ? 1 : 0);
            Kit.same("down", x.look(9), can ? least(side, 8) : 1);
        }
        Kit.yes("1 by 1", new ScanCoder().frame(1, 1, 1, 0));
        Kit.yes("64 by 64", new ScanCoder().frame(64, 64, 1, 0));
        Kit.no("0 by 0", new ScanCoder().frame(0, 0, 1, 0));
        Kit.no("65 by 65", new ScanCoder().frame(65, 65, 1, 0));
    }

    /** "1 .. 4 COMPONENTS" */
    private static void components() {
        for (int many = -2; many <= 34; many++) {
            ScanCoder x = new ScanCoder();
            boolean can = many >= 1 && many <= 4;
            Kit.same("components " + many, x.frame(8, 8, many, 0) ? 1 : 0, can ? 1 : 0);
            int there = can ? many : 1;
            Kit.same("blocks", x.look(1), there);
            Kit.same("the last component", x.look(8 + 4 * there - 1), 1);
            Kit.same("none behind it", x.look(8 + 4 * there), -1);
        }
    }

    /** "Bit 2 * c of shape is H - 1 of component c, bit 2 * c + 1 V - 1 (it has no other bits)." */
    private static void bitsOfShape() {
        for (int many = 1; many <= 4; many++) {
            for (int bit = 0; bit < 32; bit++) {
                ScanCoder x = new ScanCoder();
                boolean can = bit < 2 * many;
                String what = "bit " + bit + " of " + many + " components";
                Kit.same(what, x.frame(8, 8, many, 1 << bit) ? 1 : 0, can ? 1 : 0);
                for (int c = 0; can && c < many; c++) {
                    Kit.same(what + ", H", x.look(8 + 4 * c), bit == 2 * c ? 2 : 1);
                    Kit.same(what + ", V", x.look(9 + 4 * c), bit == 2 * c + 1 ? 2 : 1);
                }
            }
            Kit.yes("all bits", new ScanCoder().frame(8, 8, many, (1 << 2 * many) - 1));
            Kit.no("one more than all", new ScanCoder().frame(8, 8, many, 1 << 2 * many));
            Kit.no("all of an int", new ScanCoder().frame(8, 8, many, -1));
        }
    }

    /** The least number that is, times the divisor, not below the first one. */
    private static int least(int number, int divisor) {
        int found = 0;
        while (found * divisor < number) {
            found++;
        }
        return found;
    }

    /** "(all divisions here up to the next whole number) WIDTH / (8 * HM) units across and HEIGHT / (8 * VM) down" */
    private static void unitsAndBlocks() {
        for (int side = 1; side <= 64; side++) {
            for (int shape = 0; shape < 16; shape++) {
                measures(side, 65 - side, 2, shape);
                measures(side, 64, 2, shape);
            }
            measures(side, side, 1, side & 3);
            measures(64 - side / 2, side, 3, side);
        }
    }

    private static void measures(int width, int height, int many, int shape) {
        ScanCoder x = new ScanCoder();
        if (!x.frame(width, height, many, shape & (1 << 2 * many) - 1)) {
            return;
        }
        int hm = 1;
        int vm = 1;
        for (int c = 0; c < many; c++) {
            hm = Math.max(hm, 1 + (shape >> 2 * c & 1));
            vm = Math.max(vm, 1 + (shape >> 2 * c + 1 & 1));
        }
        int blocks = 0;
        int unitsAcross = least(width, 8 * hm);
        int unitsDown = least(height, 8 * vm);
        for (int c = 0; c < many; c++) {
            int h = 1 + (shape >> 2 * c & 1);
            int v = 1 + (shape >> 2 * c + 1 & 1);
            String what = width + " by " + height + ", shape " + shape + ", component " + c;
            Kit.same(what + ", across", x.look(8 + 4 * c), h * unitsAcross);
            Kit.same(what + ", down", x.look(9 + 4 * c), v * unitsDown);
            Kit.same(what + ", own across", x.look(10 + 4 * c), least(least(width * h, hm), 8));
            Kit.same(what + ", own down", x.look(11 + 4 * c), least(least(height * v, vm), 8));
            blocks += h * unitsAcross * v * unitsDown;
            x.scan(1 << c, 0, 63, 0, 0);
            Kit.same(what + ", units alone", x.look(2), x.look(10 + 4 * c) * x.look(11 + 4 * c));
        }
        Kit.same("blocks", x.look(1), blocks);
        if (many > 1) {
            x.scan((1 << many) - 1, 0, 63, 0, 0);
            Kit.same("units of all", x.look(2), unitsAcross * unitsDown);
        }
    }

    /** "all components together at most 192": every number of units, with every shape. */
    private static void atMost192() {
        int most = 0;
        int leastRefused = Integer.MAX_VALUE;
        ScanCoder x = new ScanCoder();
        for (int i = 0; i < 16 * 16 * 340; i++) {
            int width = 8 * (i % 8) + (i / 8 % 2 == 0 ? 1 : 8);
            int height = 8 * (i / 16 % 8) + (i / 128 % 2 == 0 ? 1 : 8);
            int many = i / 256 < 4 ? 1 : i / 256 < 20 ? 2 : i / 256 < 84 ? 3 : 4;
            int shape = i / 256 - new int[] {0, 0, 4, 20, 84}[many];
            int blocks = blocks(width, height, many, shape);
            if (i % 500 == 0) {
                x = new ScanCoder();
            }
            Kit.same(blocks + " blocks", x.frame(width, height, many, shape) ? 1 : 0, blocks <= 192 ? 1 : 0);
            most = blocks <= 192 ? Math.max(most, blocks) : most;
            leastRefused = blocks > 192 ? Math.min(leastRefused, blocks) : leastRefused;
        }
        Kit.same("the most that can be", most, 192);
        Kit.same("the fewest that can not", leastRefused, 196);
    }

    private static int blocks(int width, int height, int many, int shape) {
        int hm = (shape & 0x55) != 0 ? 2 : 1;
        int vm = (shape & 0xAA) != 0 ? 2 : 1;
        int ofUnit = 0;
        for (int c = 0; c < many; c++) {
            ofUnit += (1 + (shape >> 2 * c & 1)) * (1 + (shape >> 2 * c + 1 & 1));
        }
        return least(width, 8 * hm) * least(height, 8 * vm) * ofUnit;
    }

    /** "BLOCKS: H times as many across as there are such units, V times as many down, numbered row by row from 0 on" */
    private static void lastBlocks() {
        int[][] frames = {{8, 8, 1, 0}, {64, 64, 3, 0}, {48, 64, 4, 0}, {33, 17, 4, 0b00_10_01_11}, {1, 1, 4, 255}};
        for (int[] f : frames) {
            ScanCoder x = new ScanCoder();
            Kit.yes("frame", x.frame(f[0], f[1], f[2], f[3]));
            for (int c = 0; c < f[2]; c++) {
                int blocks = x.look(8 + 4 * c) * x.look(9 + 4 * c);
                Kit.yes("the last block", x.set(c, blocks - 1, 63, 100 + c));
                Kit.no("the one behind it", x.set(c, blocks, 63, 1));
                Kit.same("the one behind it", x.get(c, blocks, 63), 0);
            }
            for (int c = 0; c < f[2]; c++) {
                int blocks = x.look(8 + 4 * c) * x.look(9 + 4 * c);
                Kit.same("the last block", x.get(c, blocks - 1, 63), 100 + c);
            }
            Kit.no("no further component", x.set(f[2], 0, 0, 1));
            Kit.same("one of each", x.look(4), f[2]);
        }
    }

    /** "OF ITS OWN it has .. the first ones of the first rows" */
    private static void ownOnesAreTheFirstOfTheFirstRows() {
        ScanCoder x = new ScanCoder();
        // 4 by 4 blocks, 3 by 3 of its own.
        Kit.yes("frame", x.frame(24, 17, 2, 3));
        for (int block = 0; block < 16; block++) {
            x.set(0, block, 0, block % 4 == 3 || block >= 12 ? 1 : 0);
        }
        x.scan(1, 0, 0, 1, 0);
        Kit.writes("none of the others", x, Kit.pack("000000000"));
        x.set(0, 10, 0, 1);
        Kit.writes("the last of its own", x, Kit.pack("000000001"));
        x.set(0, 10, 0, 0);
        x.set(0, 4, 0, 1);
        Kit.writes("the first of the second row", x, Kit.pack("000100000"));
        Kit.reads("all of its own", x, Kit.pack("111111111"), 0);
        Kit.same("and the seven others", x.look(4), 16);
        x.scan(3, 0, 0, 1, 0);
        Kit.writes("with another one all are written", x, Kit.pack(Kit.repeat("1111" + "0", 4)));
    }

    /** "Another FRAME, whose coefficients are all 0; the SCAN, tables of components and the INTERVAL (0) are as at first." */
    private static void asAtFirst() {
        for (int many = 1; many <= 4; many++) {
            ScanCoder x = new ScanCoder();
            x.frame(16, 8, 4, 0);
            for (int c = 0; c < 4; c++) {
                x.tables(c, 3, 7);
                x.set(c, 0, 0, 1023);
                x.set(c, 1, 63, -1023);
            }
            x.restart(1);
            x.scan(8, 7, 8, 4, 3);
            Kit.yes("the same frame again", x.frame(16, 8, many, 0));
            Kit.same("coefficients", x.look(4), 0);
            Kit.same("interval", x.look(3), 0);
            Kit.same("units", x.look(2), 2);
            Kit.same("whole of component 0", x.tally(), 4);
            Kit.same("direct table 0", x.often(0, 0), 2);
            Kit.same("other table 4", x.often(4, 0), 2);
            for (int c = 0; c < many; c++) {
                x.scan(1 << c, 0, 63, 0, 0);
                Kit.same("words of component " + c, x.tally(), 4);
                Kit.same("direct table of " + c, x.often(0, 0), 2);
                Kit.same("other table of " + c, x.often(4, 0), 2);
            }
        }
    }
}
