/** Promises 9 and 10: set and get. */
public final class CoefficientTest {
    private static final int LEAST = Integer.MIN_VALUE;
    private static final int MOST = Integer.MAX_VALUE;

    public static void main(String[] args) {
        values();
        places();
        blocksOutsideTheOwn();
        Kit.done();
    }

    private static void values() {
        ScanCoder x = new ScanCoder();
        int[] direct = {-1024, 1023, 0, -1};
        for (int v : direct) {
            Kit.yes("direct", x.set(0, 0, 0, v));
            Kit.same("direct", x.get(0, 0, 0), v);
        }
        int[] others = {-1023, 1023, 1, 0};
        for (int v : others) {
            Kit.yes("other", x.set(0, 0, 63, v));
            Kit.same("other", x.get(0, 0, 63), v);
        }
        int[] wrongs = {1024, -1025, 65536, -65536, LEAST, MOST};
        for (int v : wrongs) {
            Kit.no("direct", x.set(0, 0, 0, v));
            Kit.no("other", x.set(0, 0, 1, v));
        }
        Kit.no("other", x.set(0, 0, 1, -1024));
        Kit.same("as before", x.get(0, 0, 0), -1);
        Kit.same("as before", x.get(0, 0, 1), 0);
        Kit.same("one is not 0", x.look(4), 1);
    }

    private static void places() {
        ScanCoder x = new ScanCoder();
        x.frame(16, 16, 3, 3);
        int[] blocks = {4, 1, 1};
        for (int c = 0; c < 3; c++) {
            for (int b = 0; b < blocks[c]; b++) {
                Kit.yes("set", x.set(c, b, 0, 10 * c + b + 1));
                Kit.yes("set", x.set(c, b, 63, -10 * c - b - 1));
            }
        }
        for (int c = 0; c < 3; c++) {
            for (int b = 0; b < blocks[c]; b++) {
                Kit.same("get", x.get(c, b, 0), 10 * c + b + 1);
                Kit.same("get", x.get(c, b, 63), -10 * c - b - 1);
            }
        }
        int[][] wrongs = {{-1, 0, 0}, {3, 0, 0}, {4, 0, 0}, {0, -1, 0}, {0, 4, 0}, {1, 1, 0}, {2, 1, 0}, {0, 0, -1},
            {0, 0, 64}, {LEAST, 0, 0}, {MOST, 0, 0}, {0, LEAST, 0}, {0, MOST, 0}, {0, 0, LEAST}, {0, 0, MOST},
            {0, 1 << 26, 0}, {0, 0, 1 << 30}};
        for (int[] w : wrongs) {
            Kit.no("set", x.set(w[0], w[1], w[2], 1));
            Kit.no("set", x.set(w[0], w[1], w[2], 0));
            Kit.same("get", x.get(w[0], w[1], w[2]), 0);
        }
        Kit.same("others than 0", x.look(4), 12);
    }

    private static void blocksOutsideTheOwn() {
        ScanCoder x = new ScanCoder();
        x.frame(8, 8, 1, 3);
        for (int b = 0; b < 4; b++) {
            Kit.yes("set", x.set(0, b, 1, b + 1));
            Kit.same("get", x.get(0, b, 1), b + 1);
        }
        Kit.no("set", x.set(0, 4, 1, 1));
        Kit.same("others than 0", x.look(4), 4);
    }
}
