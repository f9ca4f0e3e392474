/** Promise 2: another frame, its measures, what it resets and what it leaves, and what is none. */
public final class FrameTest {
    public static void main(String[] args) {
        measures();
        edges();
        wrongOnes();
        resets();
        leaves();
        falseChangesNothing();
        Kit.done();
    }

    private static void component(ScanCoder x, int c, int across, int down, int ownAcross, int ownDown) {
        int[] due = {across, down, ownAcross, ownDown};
        for (int i = 0; i < 4; i++) {
            Kit.same("component " + c + ", measure " + i, x.look(8 + 4 * c + i), due[i]);
        }
    }

    private static void measures() {
        ScanCoder x = new ScanCoder();
        // Component 0: 2 by 2, component 1: 2 by 1, component 2: 1 by 2, component 3: 1 by 1.
        Kit.yes("frame", x.frame(33, 17, 4, 0b00_10_01_11));
        component(x, 0, 6, 4, 5, 3);
        component(x, 1, 6, 2, 5, 2);
        component(x, 2, 3, 4, 3, 3);
        component(x, 3, 3, 2, 3, 2);
        Kit.same("blocks", x.look(1), 24 + 12 + 12 + 6);
        Kit.same("units of one component", x.look(2), 15);
        Kit.yes("scan", x.scan(15, 0, 63, 0, 0));
        Kit.same("units of several", x.look(2), 6);

        // Alone, a component of 2 by 2 still has blocks for whole units.
        Kit.yes("frame", x.frame(8, 8, 1, 3));
        component(x, 0, 2, 2, 1, 1);
        Kit.same("units", x.look(2), 1);

        // Both divisions go up: 17 / 2 is 9, which is two blocks.
        Kit.yes("frame", x.frame(17, 33, 2, 3));
        component(x, 0, 4, 6, 3, 5);
        component(x, 1, 2, 3, 2, 3);

        // Greatest factors may come from different components.
        Kit.yes("frame", x.frame(16, 16, 2, 0b01_10));
        component(x, 0, 1, 2, 1, 2);
        component(x, 1, 2, 1, 2, 1);
    }

    private static void edges() {
        ScanCoder x = new ScanCoder();
        Kit.yes("least", x.frame(1, 1, 1, 0));
        component(x, 0, 1, 1, 1, 1);
        Kit.yes("192 blocks", x.frame(64, 64, 3, 0));
        Kit.same("192 blocks", x.look(1), 192);
        Kit.yes("greatest of one component", x.frame(64, 64, 1, 3));
        component(x, 0, 8, 8, 8, 8);
        Kit.yes("192 blocks with factors", x.frame(64, 64, 3, 0b11_11_11));
        Kit.same("192 blocks with factors", x.look(1), 192);
        Kit.yes("four components", x.frame(48, 64, 4, 0));
        Kit.same("four components", x.look(1), 192);
        Kit.no("193 and more", x.frame(49, 64, 4, 0));
        Kit.no("193 and more", x.frame(64, 49, 4, 255));
        // Half as many units, with five, six and seven blocks each.
        Kit.yes("H of component 3", x.frame(64, 64, 4, 0b01_00_00_00));
        Kit.yes("V of component 3", x.frame(64, 64, 4, 0b10_00_00_00));
        Kit.yes("H of 2 and 3", x.frame(64, 64, 4, 0b01_01_00_00));
        Kit.yes("V of 2 and 3", x.frame(64, 64, 4, 0b10_10_00_00));
        Kit.same("192 blocks", x.look(1), 192);
        Kit.no("H of 1 to 3", x.frame(64, 64, 4, 0b01_01_01_00));
        Kit.no("V of 1 to 3", x.frame(64, 64, 4, 0b10_10_10_00));
        Kit.no("H of 0 to 2", x.frame(64, 64, 4, 0b00_01_01_01));
        Kit.no("V of 0 to 2", x.frame(64, 64, 4, 0b00_10_10_10));
    }

    private static void wrongOnes() {
        ScanCoder x = new ScanCoder();
        int[] sides = {0, -1, 65, Integer.MIN_VALUE, Integer.MAX_VALUE};
        for (int side : sides) {
            Kit.no("width", x.frame(side, 8, 1, 0));
            Kit.no("height", x.frame(8, side, 1, 0));
        }
        int[] manys = {0, -1, 5, 16, 33, Integer.MIN_VALUE, Integer.MAX_VALUE};
        for (int many : manys) {
            Kit.no("many", x.frame(8, 8, many, 0));
        }
        Kit.no("bit of no component", x.frame(8, 8, 1, 4));
        Kit.no("bit of no component", x.frame(8, 8, 2, 16));
        Kit.no("bit of no component", x.frame(8, 8, 3, 64));
        Kit.no("bit of no component", x.frame(8, 8, 4, 256));
        Kit.no("bit of no component", x.frame(8, 8, 4, -1));
        Kit.no("bit of no component", x.frame(8, 8, 4, Integer.MIN_VALUE));
    }

    private static void resets() {
        ScanCoder x = Kit.coder();
        Kit.fillOther(x, 5);
        Kit.fillDirect(x, 1);
        x.set(0, 0, 0, 7);
        x.set(0, 0, 63, 7);
        x.tables(0, 1, 5);
        x.restart(3);
        x.scan(1, 1, 5, 0, 2);
        Kit.yes("frame", x.frame(8, 8, 1, 0));
        Kit.same("interval", x.look(3), 0);
        Kit.same("coefficients", x.look(4), 0);
        Kit.same("coefficient", x.get(0, 0, 63), 0);
        Kit.same("scan is whole again", x.tally(), 2);
        Kit.same("direct table 0", x.often(0, 0), 1);
        Kit.same("other table 4", x.often(4, 0), 1);
        Kit.yes("larger", x.frame(64, 64, 3, 0));
        for (int c = 0; c < 3; c++) {
            x.set(c, 63, 63, 9);
        }
        Kit.same("set", x.look(4), 3);
        Kit.yes("smaller", x.frame(8, 8, 1, 0));
        Kit.yes("larger again", x.frame(64, 64, 3, 0));
        Kit.same("coefficients are 0 again", x.look(4), 0);
    }

    private static void leaves() {
        ScanCoder x = Kit.coder();
        x.set(0, 0, 0, 1);
        Kit.same("tally", x.tally(), 2);
        x.give(0x0102, 2);
        x.counts(1, 0);
        Kit.yes("frame", x.frame(16, 8, 1, 0));
        Kit.same("data", x.look(0), 2);
        Kit.same("words", x.look(5), 268);
        Kit.same("tally", x.often(0, 1), 1);
        Kit.yes("draft", x.symbols(9, 1));
        Kit.yes("draft", x.make(7));
        Kit.same("words", x.look(5), 269);
    }

    private static void falseChangesNothing() {
        ScanCoder x = Kit.coder();
        x.frame(16, 16, 2, 3);
        x.set(1, 0, 5, -5);
        x.restart(2);
        x.scan(3, 0, 0, 0, 1);
        Kit.no("frame", x.frame(64, 64, 4, 255));
        Kit.no("frame", x.frame(64, 64, 1, 4));
        Kit.same("blocks", x.look(1), 5);
        Kit.same("units", x.look(2), 1);
        Kit.same("interval", x.look(3), 2);
        Kit.same("coefficient", x.get(1, 0, 5), -5);
        Kit.same("scan", x.tally(), 5);
    }
}
