/** Promise 18: look. */
public final class LookTest {
    public static void main(String[] args) {
        ScanCoder x = Kit.coder();
        x.frame(40, 24, 3, 0b00_00_11);
        x.give(0x010203, 3);
        x.restart(77);
        x.set(0, 0, 0, 1);
        x.set(0, 23, 63, -1);
        x.set(2, 5, 7, 2);
        x.set(2, 5, 7, 0);
        Kit.same("bytes", x.look(0), 3);
        Kit.same("blocks", x.look(1), 24 + 6 + 6);
        Kit.same("units", x.look(2), 15);
        Kit.same("interval", x.look(3), 77);
        Kit.same("others than 0", x.look(4), 2);
        Kit.same("words", x.look(5), 268);
        int[] due = {6, 4, 5, 3, 3, 2, 3, 2, 3, 2, 3, 2};
        for (int i = 0; i < due.length; i++) {
            Kit.same("look " + (8 + i), x.look(8 + i), due[i]);
        }
        int[] wrongs = {-1, -2, -3, -4, -8, 6, 7, 20, 21, 23, 24, 100, Integer.MIN_VALUE, Integer.MAX_VALUE};
        for (int which : wrongs) {
            Kit.same("look " + which, x.look(which), -1);
        }
        x.scan(2, 0, 63, 0, 0);
        Kit.same("units of component 1", x.look(2), 6);
        x.scan(3, 0, 63, 0, 0);
        Kit.same("units of two components", x.look(2), 6);
        x.scan(1, 1, 5, 0, 0);
        Kit.same("units of a band", x.look(2), 15);
        x.counts(1, 0);
        x.symbols(9, 1);
        x.make(0);
        x.make(1);
        Kit.same("words", x.look(5), 258);
        x.frame(8, 8, 4, 0);
        Kit.same("four components", x.look(23), 1);
        Kit.same("no fifth", x.look(24), -1);
        Kit.done();
    }
}
