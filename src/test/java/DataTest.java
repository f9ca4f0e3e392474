/** Promises 15 to 17: give, cut and data. */
public final class DataTest {
    private static final int LEAST = Integer.MIN_VALUE;
    private static final int MOST = Integer.MAX_VALUE;

    public static void main(String[] args) {
        give();
        wrongGives();
        cut();
        behindWhatWasWritten();
        manyBytes();
        Kit.done();
    }

    private static void give() {
        ScanCoder x = new ScanCoder();
        Kit.yes("one", x.give(0xAB12L, 1));
        Kit.yes("three", x.give(0x77010203L, 3));
        Kit.yes("eight", x.give(0xFFFEFDFC80000001L, 8));
        Kit.sameText("data", Kit.dump(x), "12010203FFFEFDFC80000001");
        Kit.same("bytes", x.look(0), 12);
        Kit.same("bytes are 0 .. 255", x.data(4), 255);
    }

    private static void wrongGives() {
        ScanCoder x = new ScanCoder();
        int[] wrongs = {0, -1, 9, 64, LEAST, MOST};
        for (int n : wrongs) {
            Kit.no("how many", x.give(-1, n));
        }
        Kit.same("bytes", x.look(0), 0);
    }

    private static void cut() {
        ScanCoder x = new ScanCoder();
        Kit.yes("none of none", x.cut(0));
        Kit.no("one of none", x.cut(1));
        x.give(0x0102030405L, 5);
        int[] wrongs = {-1, 6, LEAST, MOST};
        for (int n : wrongs) {
            Kit.no("how many", x.cut(n));
        }
        Kit.yes("all", x.cut(5));
        Kit.same("bytes", x.look(0), 5);
        Kit.yes("three", x.cut(3));
        Kit.same("gone", x.data(3), -1);
        Kit.same("there", x.data(2), 3);
        Kit.no("they do not come again", x.cut(4));
        x.give(9, 1);
        Kit.sameText("data", Kit.dump(x), "01020309");
        int[] outside = {-1, 4, LEAST, MOST};
        for (int k : outside) {
            Kit.same("no byte", x.data(k), -1);
        }
    }

    private static void behindWhatWasWritten() {
        ScanCoder x = Kit.coder();
        x.give(0x1111111111111111L, 8);
        Kit.writes("data are what was written", x, Kit.pack(Kit.direct(0) + Kit.other(0)));
        x.give(0x22, 1);
        Kit.sameText("and one more", Kit.dump(x), Kit.pack(Kit.direct(0) + Kit.other(0)) + "22");
        Kit.same("read", x.read(), 5);
        x.cut(2);
        Kit.same("read", x.read(), 0);
        Kit.same("reading leaves them", x.look(0), 2);
    }

    private static void manyBytes() {
        ScanCoder x = new ScanCoder();
        for (int i = 0; i < 200; i++) {
            Kit.yes("give", x.give(0x0101010101010101L * (i & 255), 8));
        }
        Kit.same("bytes", x.look(0), 1600);
        for (int i = 0; i < 200; i++) {
            Kit.same("byte", x.data(8 * i + i % 8), i);
        }
    }
}
