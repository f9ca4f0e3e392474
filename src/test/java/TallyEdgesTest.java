/** Promises 13 and 14, sentence by sentence, at their boundaries. */
public final class TallyEdgesTest {
    public static void main(String[] args) {
        wordsNeedNotBeThere();
        howManyInAll();
        asManyAsAreWritten();
        theLatestTally();
        noneSuch();
        Kit.done();
    }

    private static void fill(ScanCoder x) {
        x.set(0, 0, 0, -1024);
        x.set(0, 1, 0, 1023);
        x.set(0, 0, 1, 1023);
        x.set(0, 0, 63, -1);
        x.set(0, 1, 17, 2);
        x.set(0, 2, 16, -1);
        x.set(0, 2, 18, 1);
    }

    /** "How often each symbol of each table would be written for the SCAN (words need not be there)" */
    private static void wordsNeedNotBeThere() {
        ScanCoder x = new ScanCoder();
        x.frame(24, 8, 1, 0);
        fill(x);
        Kit.same("without any words", x.tally(), 3 + 5 + 3 + 3);
        Kit.same("they can not be written", x.write(), -1);
        int[] others = {0, 2, 1, 0, 10, 1, 240, 4, 225, 0, 209, 1, 2, 1, 241, 1, 17, 1};
        for (int i = 0; i < others.length; i += 2) {
            Kit.same("symbol " + others[i], x.often(4, others[i]), others[i + 1]);
        }
        Kit.same("direct 11", x.often(0, 11), 2);
        Kit.same("direct 10", x.often(0, 10), 1);
    }

    /** "how many in all": all of often(), of all tables and symbols, with every kind of scan. */
    private static void howManyInAll() {
        int[][] scans = {{1, 0, 63, 0, 0}, {1, 0, 0, 0, 0}, {1, 0, 0, 0, 9}, {1, 0, 0, 1, 0}, {1, 1, 63, 0, 0},
            {1, 1, 63, 0, 9}, {1, 1, 63, 1, 0}, {1, 1, 63, 10, 9}, {1, 63, 63, 0, 0}};
        int[] due = {14, 3, 3, 0, 11, 2, 8, 2, 2};
        for (int i = 0; i < scans.length; i++) {
            int[] s = scans[i];
            int all = 0;
            int told = 0;
            for (int t = 0; t < 8; t++) {
                ScanCoder x = new ScanCoder();
                x.frame(24, 8, 1, 0);
                fill(x);
                x.tables(0, 2, 6);
                Kit.yes("scan", x.scan(s[0], s[1], s[2], s[3], s[4]));
                told = x.tally();
                for (int symbol = 0; symbol < 256; symbol++) {
                    all += x.often(t, symbol);
                }
            }
            Kit.same("scan " + i, told, all);
            Kit.same("scan " + i, told, due[i]);
        }
    }

    /** Each word that is written is counted once, and no other. */
    private static void asManyAsAreWritten() {
        for (int interval = 0; interval < 4; interval++) {
            ScanCoder x = Kit.coder();
            x.frame(24, 8, 1, 0);
            x.scan(1, 1, 63, 0, 0);
            x.restart(interval);
            int runs = new int[] {1, 3, 2, 1}[interval];
            Kit.same("runs, interval " + interval, x.tally(), runs);
            int bytes = x.write() - 2 * (runs - 1);
            Kit.same("two bytes each", bytes, 2 * runs);
        }
    }

    /** "in the latest tally()": what comes between changes nothing of it. */
    private static void theLatestTally() {
        ScanCoder x = Kit.coder();
        Kit.same("none yet", x.often(0, 0), 0);
        x.set(0, 0, 0, 1);
        Kit.same("tally", x.tally(), 2);
        x.write();
        x.read();
        x.set(0, 0, 0, 2);
        x.scan(1, 0, 0, 0, 0);
        x.tables(0, 1, 5);
        x.restart(7);
        x.give(0, 1);
        x.read();
        x.cut(0);
        x.write();
        Kit.table(x, 0, new int[] {1}, 9);
        x.frame(64, 64, 3, 0);
        Kit.same("still", x.often(0, 1), 1);
        Kit.same("still", x.often(4, 0), 1);
        Kit.same("another one", x.tally(), 128);
        Kit.same("the old one is gone", x.often(0, 1), 0);
        Kit.same("64 blocks", x.often(0, 0), 64);
        Kit.same("64 ends", x.often(4, 0), 64);
        x.scan(1, 0, 0, 1, 0);
        Kit.same("no words at all", x.tally(), 0);
        Kit.same("all gone", x.often(0, 0), 0);
        Kit.same("all gone", x.often(4, 0), 0);
    }

    /** "0 if there is none such" */
    private static void noneSuch() {
        ScanCoder x = new ScanCoder();
        x.frame(8, 8, 4, 0);
        for (int c = 0; c < 4; c++) {
            x.tables(c, c, 4 + c);
        }
        x.scan(15, 0, 63, 0, 0);
        Kit.same("each once", x.tally(), 8);
        for (int t = -3; t <= 11; t++) {
            for (int s = -2; s <= 2; s++) {
                Kit.same("table " + t + ", symbol " + s, x.often(t, s), t >= 0 && t <= 7 && s == 0 ? 1 : 0);
            }
            Kit.same("symbol 255", x.often(t, 255), 0);
            Kit.same("symbol 256", x.often(t, 256), 0);
            Kit.same("symbol -256", x.often(t, -256), 0);
        }
        for (int far : new int[] {Integer.MIN_VALUE, Integer.MAX_VALUE, 1 << 24, -(1 << 24)}) {
            Kit.same("far off", x.often(far, 0), 0);
            Kit.same("far off", x.often(0, far), 0);
            Kit.same("far off", x.often(far, far), 0);
        }
    }
}
