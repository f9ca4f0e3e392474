/**
 * Promises 11 and 15: "or there would be more than 16384 bytes", where the bytes 0 behind 255 and those of restarts
 * count, too; what would be more changes nothing.
 */
public final class LimitEdgesTest {
    private static final int MOST = 16384;
    private static final int UNITS = 64;
    // Words of 15 1s and a 0 for each coefficient that is 1: about every second byte is 255.
    private static final String LONG = "1111111111111110";
    private static final String END = "10";

    public static void main(String[] args) {
        // Just as many as can be, with and without restarts, and then the next ones.
        writes(5047, 0, MOST);
        writes(5048, 0, MOST + 3);
        writes(5031, 3, MOST);
        writes(5032, 3, MOST + 3);
        writes(5041, 9, MOST);
        writes(5023, 2, MOST - 1);
        writes(5024, 2, MOST + 2);
        // One too many.
        writes(4998, 1, MOST + 1);
        writes(5036, 4, MOST + 1);
        Kit.yes("by the bytes of restarts alone", bytes(4998, 1)[0] + bytes(4998, 1)[1] <= MOST);
        Kit.yes("by the bytes behind 255 alone", bytes(6500, 0)[0] <= MOST);
        writes(6500, 0, 21081);
        givesUpToTheLimit();
        roomForSeven();
        Kit.done();
    }

    private static int blockOnes(int ones, int place) {
        return Math.max(0, Math.min(63, ones - 63 * place));
    }

    /** The bits of a unit of three blocks in which 1s come first; each block has a direct one that is 0. */
    private static String unit(int ones, int unit, String direct, String other, String end) {
        StringBuilder bits = new StringBuilder();
        for (int c = 0; c < 3; c++) {
            int n = blockOnes(ones, 3 * unit + c);
            bits.append(direct).append(Kit.repeat(other, n)).append(n < 63 ? end : "");
        }
        return bits.toString();
    }

    /** An object with so many coefficients that are 1, and long words to write them; the data are short. */
    private static void prepare(ScanCoder x, int ones, int interval) {
        Kit.table(x, 0, new int[] {1, 1}, 0, 1);
        Kit.table(x, 4, new int[] {1, 1}, 1, 0);
        x.frame(64, 64, 3, 0);
        x.scan(7, 0, 63, 0, 0);
        StringBuilder bits = new StringBuilder();
        for (int unit = 0; unit < UNITS; unit++) {
            bits.append(unit(ones, unit, "0", "01", "10"));
        }
        Kit.reads("coefficients", x, Kit.pack(bits.toString()), 0);
        Kit.same("coefficients", x.look(4), ones);
        x.cut(100);
        int[] counts = new int[16];
        java.util.Arrays.fill(counts, 1);
        Kit.table(x, 4, counts, 20, 0, 22, 23, 24, 25, 26, 27, 28, 29, 30, 31, 32, 33, 34, 1);
        x.restart(interval);
    }

    /** How many bytes there would be: those of bits, those behind 255, and those of restarts. */
    private static int[] bytes(int ones, int interval) {
        int[] found = new int[3];
        StringBuilder part = new StringBuilder();
        for (int unit = 0; unit < UNITS; unit++) {
            part.append(unit(ones, unit, "0", LONG + "1", END));
            if (unit + 1 == UNITS || interval > 0 && (unit + 1) % interval == 0) {
                found[0] += (part.length() + 7) / 8;
                found[1] += Kit.pack(part.toString()).length() / 2 - (part.length() + 7) / 8;
                found[2] += unit + 1 == UNITS ? 0 : 2;
                part.setLength(0);
            }
        }
        return found;
    }

    private static void writes(int ones, int interval, int due) {
        String what = ones + " ones, interval " + interval + ", " + due + " bytes";
        int[] bytes = bytes(ones, interval);
        Kit.same(what, bytes[0] + bytes[1] + bytes[2], due);
        if (due > MOST) {
            Twins.changesNothing(what, x -> prepare(x, ones, interval), x -> {
                Kit.same(what, x.write(), ScanCoder.NONE);
                Kit.same("the same again", x.write(), ScanCoder.NONE);
            });
            return;
        }
        ScanCoder x = new ScanCoder();
        prepare(x, ones, interval);
        Kit.same(what, x.write(), due);
        Kit.same(what, x.look(0), due);
        Kit.same("the last byte is there", x.data(due - 1) >= 0 ? 1 : 0, 1);
        Kit.same("none behind it", x.data(due), -1);
        Kit.same("and is read again", x.read(), 0);
        Kit.same("coefficients", x.look(4), ones);
        Kit.same("room", x.give(0, 1) ? 1 : 0, due < MOST ? 1 : 0);
        Kit.same("bytes", x.look(0), Math.min(MOST, due + 1));
    }

    /** "false if .. there would be more than 16384": for each n, just up to it and one beyond. */
    private static void givesUpToTheLimit() {
        for (int n = 1; n <= 8; n++) {
            for (int more = 0; more < 2; more++) {
                ScanCoder x = new ScanCoder();
                prepare(x, 5043, 0);
                x.write();
                x.give(0x5555, 2);
                for (int have = x.look(0); have < MOST - n + more; have++) {
                    Kit.yes("give", x.give(0x55, 1));
                }
                int have = x.look(0);
                Kit.same("bytes", have, MOST - n + more);
                Kit.same(n + " bytes, " + more + " beyond", x.give(0x0102030405060708L, n) ? 1 : 0, 1 - more);
                Kit.same("bytes", x.look(0), more == 0 ? MOST : have);
                Kit.same("the last one", x.data(x.look(0) - 1), more == 0 ? 8 : 0x55);
                Kit.same("none behind it", x.data(x.look(0)), -1);
            }
        }
    }

    private static void roomForSeven() {
        Twins.changesNothing("eight where there is room for seven", x -> {
            prepare(x, 5043, 0);
            x.write();
            for (int have = x.look(0); have < MOST - 7; have++) {
                x.give(0x55, 1);
            }
        }, x -> {
            Kit.same("bytes", x.look(0), MOST - 7);
            Kit.no("eight", x.give(-1, 8));
            Kit.no("nine", x.give(-1, 9));
            Kit.no("none", x.give(-1, 0));
        });
    }
}
