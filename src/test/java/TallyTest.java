/** Promises 13 and 14: tally and often. */
public final class TallyTest {
    public static void main(String[] args) {
        whole();
        bandsAndRefinements();
        restarts();
        latest();
        wrongOnes();
        tablesMadeByIt();
        Kit.done();
    }

    private static void whole() {
        ScanCoder x = new ScanCoder();
        x.frame(16, 8, 2, 0);
        x.tables(1, 2, 7);
        x.scan(3, 0, 63, 0, 0);
        x.set(0, 0, 0, -1024);
        x.set(0, 1, 0, 1023);
        x.set(0, 1, 40, 1);
        x.set(1, 0, 63, -1023);
        x.set(1, 1, 1, 3);
        x.set(1, 1, 2, 3);
        Kit.same("all, without any words", x.tally(), 4 + 1 + 4 + 4 + 3);
        Kit.same("direct 11", x.often(0, 11), 2);
        Kit.same("direct 0", x.often(0, 0), 0);
        Kit.same("end", x.often(4, 0), 2);
        Kit.same("sixteen zeros", x.often(4, 240), 2);
        Kit.same("seven zeros", x.often(4, 16 * 7 + 1), 1);
        Kit.same("direct of 1", x.often(2, 0), 2);
        Kit.same("sixteen zeros of 1", x.often(7, 240), 3);
        Kit.same("fourteen zeros", x.often(7, 16 * 14 + 10), 1);
        Kit.same("twice", x.often(7, 2), 2);
        Kit.same("end of 1", x.often(7, 0), 1);
        int all = 0;
        for (int s = 0; s < 256; s += 5) {
            all += x.often(1, s) + x.often(3, s) + x.often(5, s) + x.often(6, s);
        }
        Kit.same("other tables", all, 0);
        Kit.same("data", x.look(0), 0);
    }

    private static void bandsAndRefinements() {
        ScanCoder x = new ScanCoder();
        x.frame(64, 8, 1, 0);
        x.tables(0, 3, 6);
        x.scan(1, 1, 63, 0, 1);
        x.set(0, 5, 1, 2);
        x.set(0, 5, 2, 1);
        Kit.same("runs of five and three, and one", x.tally(), 3);
        Kit.same("five", x.often(6, 32), 1);
        Kit.same("three", x.often(6, 16), 1);
        Kit.same("one", x.often(6, 1), 1);
        x.scan(1, 1, 63, 1, 0);
        Kit.same("a run of five, one, and three", x.tally(), 3);
        Kit.same("behind one 0, which is none", x.often(6, 1), 1);
        x.scan(1, 0, 0, 0, 0);
        Kit.same("direct ones", x.tally(), 8);
        Kit.same("direct ones", x.often(3, 0), 8);
        x.scan(1, 0, 0, 1, 0);
        Kit.same("bits alone", x.tally(), 0);
        Kit.same("direct ones", x.often(3, 0), 0);
    }

    private static void restarts() {
        ScanCoder x = new ScanCoder();
        x.frame(64, 8, 1, 0);
        x.scan(1, 1, 63, 0, 0);
        x.restart(3);
        Kit.same("three runs", x.tally(), 3);
        Kit.same("of 3, 3 and 2", x.often(4, 16), 3);
        x.scan(1, 0, 0, 0, 0);
        for (int b = 0; b < 8; b++) {
            x.set(0, b, 0, 5);
        }
        Kit.same("direct ones", x.tally(), 8);
        Kit.same("differences begin anew", x.often(0, 3), 3);
    }

    private static void latest() {
        ScanCoder x = Kit.coder();
        Kit.same("none yet", x.often(0, 0), 0);
        Kit.same("tally", x.tally(), 2);
        x.set(0, 0, 0, 1);
        Kit.same("write", x.write(), 2);
        Kit.same("it is the latest tally's", x.often(0, 0), 1);
        x.tables(0, 1, 5);
        x.restart(2);
        x.frame(8, 8, 1, 0);
        Kit.same("it is the latest tally's", x.often(0, 0), 1);
        x.set(0, 0, 0, 1);
        Kit.same("tally", x.tally(), 2);
        Kit.same("gone", x.often(0, 0), 0);
        Kit.same("new", x.often(0, 1), 1);
        Kit.same("not added up", x.often(4, 0), 1);
    }

    private static void wrongOnes() {
        ScanCoder x = new ScanCoder();
        x.tally();
        int[] tables = {-1, 8, 9, Integer.MIN_VALUE, Integer.MAX_VALUE};
        for (int t : tables) {
            Kit.same("no table", x.often(t, 0), 0);
        }
        int[] symbols = {-1, 256, -256, 1 << 30, Integer.MIN_VALUE, Integer.MAX_VALUE};
        for (int s : symbols) {
            Kit.same("no symbol", x.often(0, s), 0);
            Kit.same("no symbol", x.often(4, s), 0);
            Kit.same("no symbol", x.often(7, s), 0);
        }
        Kit.same("table -1, symbol 256", x.often(-1, 256), 0);
        Kit.same("table 3, symbol 256", x.often(3, 256), 0);
        Kit.same("table 5, symbol -256", x.often(5, -256), 0);
    }

    private static void tablesMadeByIt() {
        ScanCoder x = new ScanCoder();
        x.set(0, 0, 0, 3);
        x.set(0, 0, 20, -1);
        Kit.same("tally", x.tally(), 4);
        x.counts(1, 0);
        x.symbols(2, 1);
        x.make(0);
        x.counts(3L << 8, 0);
        x.symbols(0xF03100L, 3);
        x.make(4);
        Kit.writes("just the words that are needed", x, Kit.pack("0" + "11" + "00" + "01" + "0" + "10"));
    }
}
