/** Promises 6 to 8: scan, tables and restart. */
public final class ScanSettingsTest {
    private static final int LEAST = Integer.MIN_VALUE;
    private static final int MOST = Integer.MAX_VALUE;

    public static void main(String[] args) {
        scans();
        wrongScans();
        masks();
        falseChangesNothing();
        tables();
        restarts();
        Kit.done();
    }

    private static void scans() {
        ScanCoder x = new ScanCoder();
        Kit.yes("whole", x.scan(1, 0, 63, 0, 0));
        for (int bits = 0; bits <= 9; bits++) {
            Kit.yes("direct", x.scan(1, 0, 0, 0, bits));
            Kit.yes("direct refinement", x.scan(1, 0, 0, bits + 1, bits));
            Kit.yes("band", x.scan(1, 1, 63, 0, bits));
            Kit.yes("band refinement", x.scan(1, 1, 63, bits + 1, bits));
        }
        Kit.yes("band of one", x.scan(1, 63, 63, 0, 0));
        Kit.yes("band of one", x.scan(1, 1, 1, 0, 0));
        Kit.yes("band", x.scan(1, 5, 9, 3, 2));
    }

    private static void wrongScans() {
        ScanCoder x = new ScanCoder();
        int[][] wrongs = {
            {0, 63, 0, 1}, {0, 63, 1, 0}, {0, 63, 2, 1}, {0, 62, 0, 0}, {0, 64, 0, 0}, {0, 1, 0, 0}, {0, -1, 0, 0},
            {0, 0, 0, -1}, {0, 0, 0, 10}, {0, 0, 11, 10}, {0, 0, 1, 1}, {0, 0, 3, 1}, {0, 0, -1, 0}, {0, 0, 0, MOST},
            {0, 0, LEAST, MOST}, {0, 0, 0, LEAST}, {0, 0, -1, -2}, {1, 0, 0, 0}, {5, 4, 0, 0}, {1, 64, 0, 0},
            {64, 64, 0, 0}, {-1, 63, 0, 0}, {-1, -1, 0, 0}, {LEAST, 63, 0, 0}, {1, MOST, 0, 0}, {MOST, MOST, 0, 0},
            {1, 63, 0, 10}, {1, 63, 0, -1}, {1, 63, 2, 0}, {1, 63, 1, 1}, {1, 63, 11, 10}, {1, LEAST, 0, 0},
        };
        for (int[] w : wrongs) {
            Kit.no("scan " + w[0] + " " + w[1] + " " + w[2] + " " + w[3], x.scan(1, w[0], w[1], w[2], w[3]));
        }
    }

    private static void masks() {
        ScanCoder x = new ScanCoder();
        int[] wrongs = {0, 2, 3, 16, -1, LEAST, MOST, -2};
        for (int mask : wrongs) {
            Kit.no("mask", x.scan(mask, 0, 63, 0, 0));
            Kit.no("mask", x.scan(mask, 0, 0, 0, 0));
            Kit.no("mask", x.scan(mask, 1, 63, 0, 0));
        }
        x.frame(16, 16, 3, 3);
        for (int mask = 1; mask < 8; mask++) {
            boolean one = Integer.bitCount(mask) == 1;
            Kit.yes("whole", x.scan(mask, 0, 63, 0, 0));
            Kit.same("units", x.look(2), mask == 1 ? 4 : 1);
            Kit.yes("direct", x.scan(mask, 0, 0, 0, 3));
            Kit.yes("direct refinement", x.scan(mask, 0, 0, 4, 3));
            Kit.same("band", x.scan(mask, 1, 63, 0, 3) ? 1 : 0, one ? 1 : 0);
            Kit.same("band refinement", x.scan(mask, 1, 63, 4, 3) ? 1 : 0, one ? 1 : 0);
        }
        Kit.no("no fourth component", x.scan(8, 0, 63, 0, 0));
        Kit.no("no fourth component", x.scan(9, 0, 63, 0, 0));
        x.frame(8, 8, 4, 0);
        Kit.yes("all four", x.scan(15, 0, 63, 0, 0));
        Kit.no("no fifth", x.scan(31, 0, 63, 0, 0));
    }

    private static void falseChangesNothing() {
        ScanCoder x = Kit.coder();
        x.frame(16, 16, 2, 3);
        Kit.yes("scan", x.scan(3, 0, 0, 0, 2));
        Kit.no("scan", x.scan(3, 1, 63, 0, 0));
        Kit.no("scan", x.scan(4, 0, 63, 0, 0));
        Kit.no("scan", x.scan(1, 0, 63, 0, 1));
        Kit.same("units", x.look(2), 1);
        x.set(0, 0, 0, 4);
        Kit.writes("still direct, two bits less", x,
                Kit.pack(Kit.direct(1) + "1" + Kit.direct(1) + "0" + Kit.repeat(Kit.direct(0), 3)));
    }

    private static void tables() {
        ScanCoder x = new ScanCoder();
        x.frame(8, 8, 2, 0);
        Kit.yes("tables", x.tables(0, 0, 4));
        Kit.yes("tables", x.tables(1, 3, 7));
        int[][] wrongs = {{-1, 0, 4}, {2, 0, 4}, {4, 0, 4}, {0, 4, 4}, {0, -1, 4}, {0, 0, 3}, {0, 0, 8}, {0, 0, -1},
            {LEAST, 0, 4}, {MOST, 0, 4}, {1, LEAST, 4}, {1, MOST, 4}, {1, 0, LEAST}, {1, 0, MOST}};
        for (int[] w : wrongs) {
            Kit.no("tables " + w[0] + " " + w[1] + " " + w[2], x.tables(w[0], w[1], w[2]));
        }
        x.scan(3, 0, 63, 0, 0);
        Kit.same("tally", x.tally(), 4);
        Kit.same("direct of 0", x.often(0, 0), 1);
        Kit.same("other of 0", x.often(4, 0), 1);
        Kit.same("direct of 1", x.often(3, 0), 1);
        Kit.same("other of 1", x.often(7, 0), 1);
        tablesAreThoseOfTheBits();
    }

    private static void tablesAreThoseOfTheBits() {
        ScanCoder x = Kit.coder();
        x.counts(1 | 1 << 8, 0);
        x.symbols(0x0001, 2);
        x.make(2);
        x.counts(1 | 1 << 8, 0);
        x.symbols(0x0100, 2);
        x.make(6);
        x.frame(8, 8, 2, 0);
        x.scan(3, 0, 63, 0, 0);
        x.tables(1, 2, 6);
        x.set(1, 0, 1, 1);
        String hex = Kit.pack(Kit.direct(0) + Kit.other(0) + "0" + "0" + "1" + "10");
        Kit.writes("two tables each", x, hex);
        x.set(1, 0, 1, 0);
        Kit.reads("two tables each", x, hex, 0);
        Kit.same("read", x.get(1, 0, 1), 1);
        Kit.yes("settings stay with another scan", x.scan(2, 0, 63, 0, 0));
        Kit.writes("component 1 alone", x, Kit.pack("0" + "0" + "1" + "10"));
    }

    private static void restarts() {
        ScanCoder x = new ScanCoder();
        int[] wrongs = {-1, 65536, LEAST, MOST};
        Kit.yes("restart", x.restart(65535));
        Kit.same("interval", x.look(3), 65535);
        for (int interval : wrongs) {
            Kit.no("interval", x.restart(interval));
        }
        Kit.same("interval", x.look(3), 65535);
        Kit.yes("restart", x.restart(0));
        Kit.same("interval", x.look(3), 0);
        Kit.yes("restart", x.restart(1));
        x.scan(1, 0, 0, 0, 0);
        Kit.same("scan() leaves the interval", x.look(3), 1);
    }
}
