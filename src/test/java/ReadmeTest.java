/** The calls that README.md shows answer what it says. */
public final class ReadmeTest {
    public static void main(String[] args) {
        oneObject();
        anotherObject();
        bitByBit();
        Kit.done();
    }

    private static ScanCoder example() {
        ScanCoder x = new ScanCoder();
        Kit.yes("frame", x.frame(16, 8, 1, 0));
        Kit.same("two blocks", x.look(1), 2);
        x.counts(2L << 8, 0);
        Kit.yes("symbols", x.symbols(0x0001, 2));
        Kit.yes("table 0", x.make(0));
        Kit.yes("table 4", x.make(4));
        return x;
    }

    private static void oneObject() {
        ScanCoder x = example();
        Kit.yes("set", x.set(0, 0, 0, 1));
        Kit.same("bytes", x.write(), 2);
        Kit.same("first byte", x.data(0), 0x62);
        Kit.yes("set", x.set(0, 0, 0, 0));
        Kit.same("read", x.read(), 0);
        Kit.same("as it was written", x.get(0, 0, 0), 1);
    }

    private static void anotherObject() {
        ScanCoder x = example();
        ScanCoder y = example();
        Kit.yes("set", x.set(0, 0, 0, 1));
        Kit.yes("other data", y.give(-1, 5));
        carry(x, y);
        Kit.same("as the other one wrote it", y.get(0, 0, 0), 1);
        Kit.same("that one alone", y.look(4), 1);
    }

    private static void carry(ScanCoder x, ScanCoder y) {
        int bytes = x.write();
        Kit.yes("written", bytes > 0);
        Kit.yes("cut", y.cut(0));
        for (int k = 0; k < bytes; k++) {
            Kit.yes("give", y.give(x.data(k), 1));
        }
        Kit.same("read", y.read(), 0);
    }

    private static void bitByBit() {
        ScanCoder x = Kit.coder();
        ScanCoder y = Kit.coder();
        int[][] scans = {{0, 0, 0, 1}, {1, 63, 0, 1}, {0, 0, 1, 0}, {1, 63, 1, 0}};
        int[][] due = {{-6, 0, 0, 0}, {-6, 4, 0, -2}, {-5, 4, 0, -2}, {-5, 5, -1, -2}};
        int[] given = {-5, 5, -1, -2};
        for (int k = 0; k < given.length; k++) {
            Kit.yes("set", x.set(0, 0, k, given[k]));
        }
        for (int i = 0; i < scans.length; i++) {
            Kit.yes("scan", x.scan(1, scans[i][0], scans[i][1], scans[i][2], scans[i][3]));
            Kit.yes("scan", y.scan(1, scans[i][0], scans[i][1], scans[i][2], scans[i][3]));
            carry(x, y);
            for (int k = 0; k < given.length; k++) {
                Kit.same("coefficient " + k + " behind scan " + i, y.get(0, 0, k), due[i][k]);
            }
        }
    }
}
