/** Promises 11 and 12: what one object writes in several scans makes the same coefficients in another one. */
public final class RoundTripTest {
    private static int seed = 1;

    private final ScanCoder from = coder();
    private final ScanCoder to = coder();

    public static void main(String[] args) {
        for (int i = 0; i < 40; i++) {
            new RoundTripTest().progressive(i % 3, i % 5);
            new RoundTripTest().whole(i % 4);
        }
        Kit.done();
    }

    private static ScanCoder coder() {
        ScanCoder x = Kit.coder();
        Kit.yes("frame", x.frame(20, 12, 2, 3));
        return x;
    }

    private static int next(int below) {
        seed = seed * 1103515245 + 12345;
        return (seed >>> 8) % below;
    }

    private void fill(int range) {
        for (int i = 0; i < 60; i++) {
            int c = next(2);
            int block = next(c == 0 ? 8 : 2);
            int k = next(3) == 0 ? 0 : next(64);
            Kit.yes("set", from.set(c, block, k, next(2 * range + 1) - range));
        }
    }

    private void move(int mask, int first, int last, int before, int bits) {
        Kit.yes("scan", from.scan(mask, first, last, before, bits));
        Kit.yes("scan", to.scan(mask, first, last, before, bits));
        int bytes = from.write();
        Kit.yes("written", bytes > 0);
        to.cut(0);
        for (int k = 0; k < bytes; k++) {
            to.give(from.data(k), 1);
        }
        Kit.same("read", to.read(), 0);
    }

    private void restart(int interval) {
        from.restart(interval);
        to.restart(interval);
    }

    private void whole(int interval) {
        fill(1023);
        restart(interval);
        move(3, 0, 63, 0, 0);
        for (int c = 0; c < 2; c++) {
            for (int block = 0; block < (c == 0 ? 8 : 2); block++) {
                compare(c, block);
            }
        }
    }

    private void progressive(int low, int interval) {
        fill(1 << 2 * low + 1);
        restart(interval);
        move(3, 0, 0, 0, low);
        for (int bits = low - 1; bits >= 0; bits--) {
            move(3, 0, 0, bits + 1, bits);
        }
        for (int c = 0; c < 2; c++) {
            move(1 << c, 1, 5, 0, low);
            move(1 << c, 6, 63, 0, low);
            for (int bits = low - 1; bits >= 0; bits--) {
                move(1 << c, 1, 63, bits + 1, bits);
            }
        }
        // Of four by two blocks of component 0 the last ones of a row are not its own.
        for (int block : new int[] {0, 1, 2, 4, 5, 6}) {
            compare(0, block);
        }
        compare(1, 0);
        compare(1, 1);
        Kit.same("direct ones are of all blocks", to.get(0, 7, 0), from.get(0, 7, 0));
        Kit.same("bands have own blocks alone", to.get(0, 7, 1), 0);
    }

    private void compare(int c, int block) {
        for (int k = 0; k < 64; k++) {
            Kit.same("coefficient " + c + " " + block + " " + k, to.get(c, block, k), from.get(c, block, k));
        }
    }
}
