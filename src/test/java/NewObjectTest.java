/** Promise 1: what a new object is like. */
public final class NewObjectTest {
    public static void main(String[] args) {
        ScanCoder x = new ScanCoder();
        Kit.same("NONE", ScanCoder.NONE, -1);
        Kit.same("no bytes", x.look(0), 0);
        Kit.same("one block", x.look(1), 1);
        Kit.same("one unit", x.look(2), 1);
        Kit.same("no interval", x.look(3), 0);
        Kit.same("all 0", x.look(4), 0);
        Kit.same("no words", x.look(5), 0);
        for (int i = 8; i < 12; i++) {
            Kit.same("one block each way", x.look(i), 1);
        }
        Kit.same("no second component", x.look(12), -1);
        Kit.same("tables have no words", x.read(), 2);
        Kit.same("nothing to write with", x.write(), -1);
        Kit.same("no tally yet", x.often(0, 0), 0);
        Kit.same("no byte", x.data(0), -1);
        for (int k = 0; k < 64; k++) {
            Kit.same("coefficient", x.get(0, 0, k), 0);
        }
        theScanIsWholeOfComponentZeroWithTablesZeroAndFour();
        objectsHaveNothingInCommon();
        Kit.done();
    }

    private static void theScanIsWholeOfComponentZeroWithTablesZeroAndFour() {
        ScanCoder x = Kit.coder();
        Kit.yes("set", x.set(0, 0, 0, 5));
        Kit.yes("set", x.set(0, 0, 63, -1));
        String others = Kit.repeat(Kit.other(240), 3) + Kit.other(16 * 14 + 1) + "0";
        Kit.writes("whole block", x, Kit.pack(Kit.direct(3) + "101" + others));
    }

    private static void objectsHaveNothingInCommon() {
        ScanCoder x = Kit.coder();
        ScanCoder y = new ScanCoder();
        x.set(0, 0, 0, 1);
        x.write();
        x.tally();
        Kit.same("other object's coefficients", y.look(4), 0);
        Kit.same("other object's data", y.look(0), 0);
        Kit.same("other object's words", y.look(5), 0);
        Kit.same("other object's tally", y.often(0, 1), 0);
    }
}
