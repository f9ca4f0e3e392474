/** "What throws, or answers false, NONE or a fault changes nothing": each call that can be refused, in a busy object. */
public final class RefusalTest {
    private static final int LEAST = Integer.MIN_VALUE;
    private static final int MOST = Integer.MAX_VALUE;

    public static void main(String[] args) {
        twinsSeeChanges();
        frames();
        symbols();
        fullDraft();
        makes();
        scans();
        tables();
        restarts();
        sets();
        writesWithoutWords();
        gives();
        cuts();
        answersOnly();
        Kit.done();
    }

    /** Something of everything: frame, tables, a half-done draft, scan, interval, coefficients, a tally and data. */
    static void busy(ScanCoder x) {
        Kit.fillDirect(x, 0);
        Kit.fillOther(x, 4);
        Kit.table(x, 1, new int[] {1, 1, 1}, 2, 1, 0);
        Kit.table(x, 5, new int[] {0, 3}, 0, 1, 17);
        x.frame(16, 16, 2, 3);
        x.tables(1, 1, 5);
        x.set(0, 0, 0, 5);
        x.set(0, 1, 0, -9);
        x.set(0, 3, 63, 1);
        x.set(0, 2, 7, -1023);
        x.set(1, 0, 0, 3);
        x.set(1, 0, 2, -1);
        x.scan(3, 0, 63, 0, 0);
        x.tally();
        x.scan(1, 0, 0, 0, 0);
        x.write();
        x.give(0xFFD00102L, 4);
        x.restart(3);
        x.scan(3, 0, 0, 0, 1);
        Kit.draft(x, new int[] {0, 3}, 1, 2);
    }

    private static void twinsSeeChanges() {
        seen("another frame", x -> x.frame(16, 15, 2, 3));
        seen("other counts", x -> Kit.draft(x, new int[] {0, 2, 1}, 1, 2));
        seen("another symbol", x -> Kit.draft(x, new int[] {0, 3}, 1, 3));
        seen("one more symbol", x -> x.symbols(9, 1));
        for (int t = 0; t < 8; t++) {
            int table = t;
            seen("another table", x -> {
                Kit.table(x, table, new int[] {1, 1}, 0, 1);
                Kit.draft(x, new int[] {0, 3}, 1, 2);
            });
        }
        seen("another scan", x -> x.scan(3, 0, 0, 0, 2));
        seen("other components", x -> x.scan(2, 0, 0, 0, 1));
        seen("another direct table", x -> x.tables(1, 2, 5));
        seen("another other table", x -> x.tables(1, 1, 6));
        seen("another interval", x -> x.restart(4));
        seen("another coefficient", x -> x.set(1, 0, 63, 1));
        seen("another tally", x -> x.tally());
        seen("other data", x -> x.write());
        seen("one more byte", x -> x.give(0, 1));
        seen("one byte less", x -> x.cut(7));
        Twins.changesNothing("nothing", RefusalTest::busy, x -> { });
    }

    private static void seen(String what, Twins.Steps change) {
        Twins.changes(what, RefusalTest::busy, change);
    }

    private static void refused(String what, Twins.Steps call) {
        Twins.changesNothing(what, RefusalTest::busy, call);
    }

    private static void frames() {
        refused("frame, a width", x -> {
            for (int side : new int[] {0, 65, -1, LEAST, MOST}) {
                Kit.no("width " + side, x.frame(side, 8, 1, 0));
                Kit.no("height " + side, x.frame(8, side, 1, 0));
            }
        });
        refused("frame, components", x -> {
            for (int many : new int[] {0, 5, -1, LEAST, MOST}) {
                Kit.no("many " + many, x.frame(8, 8, many, 0));
            }
        });
        refused("frame, other bits of shape", x -> {
            Kit.no("shape", x.frame(8, 8, 1, 4));
            Kit.no("shape", x.frame(8, 8, 2, 16));
            Kit.no("shape", x.frame(8, 8, 3, 64));
            Kit.no("shape", x.frame(8, 8, 4, 256));
            Kit.no("shape", x.frame(8, 8, 1, LEAST));
        });
        refused("frame, more than 192 blocks", x -> {
            Kit.no("196 blocks", x.frame(56, 56, 4, 0));
            Kit.no("256 blocks", x.frame(64, 64, 4, 255));
        });
    }

    private static void symbols() {
        refused("symbols, how many", x -> {
            for (int n : new int[] {0, 9, -1, 64, LEAST, MOST}) {
                Kit.no("n " + n, x.symbols(0x0304050607080910L, n));
            }
        });
    }

    private static void fullDraft() {
        for (int n = 1; n <= 8; n++) {
            int one = n;
            Twins.changesNothing("symbols, the " + n + " that are too many", x -> {
                busy(x);
                // All 256 but n - 1, in nine bits (and one in ten).
                x.counts(0, 255L | 1L << 8);
                for (int s = 0; s < 248; s += 8) {
                    x.symbols(0x0101010101010101L * s + 0x0001020304050607L, 8);
                }
                for (int s = 248; s < 257 - one; s++) {
                    x.symbols(s, 1);
                }
            }, x -> {
                Kit.no("257", x.symbols(0xF8F9FAFBFCFDFEFFL, one));
                Kit.no("more than 257", x.symbols(0xF8F9FAFBFCFDFEFFL, 8));
            });
        }
    }

    private static void makes() {
        refused("make, the draft has a symbol too few", x -> {
            for (int t = 0; t < 8; t++) {
                Kit.no("table " + t, x.make(t));
            }
        });
        refusedDraft("make, no such table", new int[] {1}, true, 7);
        refusedDraft("make, a symbol too many", new int[] {1}, false, 7, 8);
        refusedDraft("make, a symbol twice", new int[] {0, 3}, false, 7, 8, 7);
        refusedDraft("make, all 1s", new int[] {2}, false, 7, 8);
        refusedDraft("make, more than all 1s", new int[] {3}, false, 7, 8, 9);
    }

    private static void refusedDraft(String what, int[] counts, boolean wrongTable, int... symbols) {
        Twins.changesNothing(what, x -> {
            busy(x);
            Kit.draft(x, counts, symbols);
        }, x -> {
            for (int t : wrongTable ? new int[] {-1, 8, LEAST, MOST} : new int[] {0, 1, 4, 5, 7}) {
                Kit.no(what + " " + t, x.make(t));
            }
        });
    }

    private static void scans() {
        refused("scan, components", x -> {
            for (int mask : new int[] {0, 4, 5, 7, 8, -1, LEAST, MOST}) {
                Kit.no("mask " + mask, x.scan(mask, 0, 63, 0, 0));
                Kit.no("mask " + mask, x.scan(mask, 0, 0, 0, 0));
                Kit.no("mask " + mask, x.scan(mask, 1, 63, 0, 0));
            }
            Kit.no("a band of two", x.scan(3, 1, 63, 0, 0));
            Kit.no("a band's refinement of two", x.scan(3, 1, 63, 1, 0));
        });
        refused("scan, coefficients", x -> {
            Kit.no("whole but one", x.scan(1, 0, 62, 0, 0));
            Kit.no("whole and one", x.scan(1, 0, 64, 0, 0));
            Kit.no("whole, a bit", x.scan(1, 0, 63, 0, 1));
            Kit.no("whole, refined", x.scan(1, 0, 63, 1, 0));
            Kit.no("last ahead of first", x.scan(1, 7, 6, 0, 0));
            Kit.no("beyond 63", x.scan(1, 7, 64, 0, 0));
            Kit.no("below 0", x.scan(1, -1, 63, 0, 0));
        });
        refused("scan, bits", x -> {
            for (int first = 0; first < 2; first++) {
                Kit.no("ten", x.scan(1, first, first, 0, 10));
                Kit.no("ten, refined", x.scan(1, first, first, 11, 10));
                Kit.no("below 0", x.scan(1, first, first, 0, -1));
                Kit.no("two at once", x.scan(1, first, first, 3, 1));
                Kit.no("none at once", x.scan(1, first, first, 1, 1));
            }
        });
    }

    private static void tables() {
        refused("tables", x -> {
            for (int c : new int[] {-1, 2, 3, 4, LEAST, MOST}) {
                Kit.no("component " + c, x.tables(c, 1, 5));
            }
            for (int direct : new int[] {-1, 4, 5, LEAST, MOST}) {
                Kit.no("direct " + direct, x.tables(0, direct, 5));
            }
            for (int other : new int[] {-1, 0, 3, 8, LEAST, MOST}) {
                Kit.no("other " + other, x.tables(0, 1, other));
            }
        });
    }

    private static void restarts() {
        refused("restart", x -> {
            for (int interval : new int[] {-1, 65536, LEAST, MOST}) {
                Kit.no("interval " + interval, x.restart(interval));
            }
        });
    }

    private static void sets() {
        refused("set, a value", x -> {
            Kit.no("1024", x.set(0, 0, 0, 1024));
            Kit.no("-1025", x.set(0, 0, 0, -1025));
            Kit.no("1024", x.set(0, 0, 1, 1024));
            Kit.no("-1024", x.set(0, 0, 1, -1024));
            Kit.no("65536", x.set(0, 0, 0, 65536));
            Kit.no("65536", x.set(0, 0, 63, -65536));
        });
        refused("set, a place", x -> {
            for (int wrong : new int[] {-1, 64, LEAST, MOST}) {
                Kit.no("component " + wrong, x.set(wrong, 0, 0, 1));
                Kit.no("block " + wrong, x.set(0, wrong, 0, 1));
                Kit.no("coefficient " + wrong, x.set(0, 0, wrong, 1));
            }
            Kit.no("component 2", x.set(2, 0, 0, 1));
            Kit.no("block 4", x.set(0, 4, 0, 1));
            Kit.no("block 1 of component 1", x.set(1, 1, 0, 1));
        });
    }

    private static void writesWithoutWords() {
        // Components 0 and 1: the words of 0 are all there, those of 1 are not.
        Twins.changesNothing("write, the last word is missing", x -> {
            busy(x);
            x.set(1, 0, 2, 0);
            x.set(1, 0, 63, 1);
            x.scan(3, 0, 63, 0, 0);
        }, x -> Kit.same("write", x.write(), ScanCoder.NONE));
        Twins.changesNothing("write, a table without words", x -> {
            busy(x);
            x.tables(0, 2, 6);
        }, x -> Kit.same("write", x.write(), ScanCoder.NONE));
        Twins.changesNothing("write, a run's word is missing", x -> {
            busy(x);
            x.frame(16, 8, 1, 0);
            x.tables(0, 0, 5);
            x.scan(1, 1, 63, 0, 0);
        }, x -> Kit.same("write", x.write(), ScanCoder.NONE));
    }

    private static void gives() {
        refused("give, how many", x -> {
            for (int n : new int[] {0, 9, -1, 64, LEAST, MOST}) {
                Kit.no("n " + n, x.give(-1, n));
            }
        });
    }

    private static void cuts() {
        refused("cut", x -> {
            Kit.no("one too many", x.cut(x.look(0) + 1));
            for (int n : new int[] {-1, LEAST, MOST}) {
                Kit.no("n " + n, x.cut(n));
            }
        });
    }

    /** Calls that ask for what is not there, and those that only tell. */
    private static void answersOnly() {
        refused("answers", x -> {
            for (int wrong : new int[] {-1, 64, 256, LEAST, MOST}) {
                Kit.same("get", x.get(wrong, 0, 0), 0);
                Kit.same("get", x.get(0, wrong, 0), 0);
                Kit.same("get", x.get(0, 0, wrong), 0);
                Kit.same("often", x.often(wrong, 0), 0);
                Kit.same("often", x.often(0, wrong == 64 ? 256 : wrong), 0);
                Kit.same("data", x.data(wrong), -1);
                Kit.same("look", x.look(wrong), -1);
            }
            Kit.same("look", x.look(0), 8);
        });
    }
}
