/** Promises 11 and 15: the data have at most 16384 bytes, to the byte. */
public final class LimitTest {
    public static void main(String[] args) {
        ScanCoder x = new ScanCoder();
        // Short words to bring the coefficients in, long ones to write them.
        x.counts(1L | 1L << 8, 0);
        x.symbols(0x0001, 2);
        x.make(0);
        x.counts(1L | 1L << 8, 0);
        x.symbols(0x0100, 2);
        x.make(4);
        x.counts(0, 4L << 8);
        x.symbols(0x01000203, 4);
        x.make(5);
        x.frame(64, 64, 3, 0);
        x.scan(7, 0, 63, 0, 0);
        // 188 blocks of 63 ones, one with 61, three with none.
        String bits = Kit.repeat("0" + Kit.repeat("01", 63), 188) + "0" + Kit.repeat("01", 61) + "10"
                + Kit.repeat("0" + "10", 3);
        Kit.reads("coefficients", x, Kit.pack(bits), 0);
        Kit.same("coefficients", x.look(4), 188 * 63 + 61);
        for (int c = 0; c < 3; c++) {
            x.tables(c, 0, 5);
        }
        // 192 words of one bit, 11905 times 10 + 1 bits, four ends of ten: 131187 bits are 16399 bytes.
        Kit.same("too many", x.write(), -1);
        Kit.same("data as before", x.look(0), (bits.length() + 7) / 8);
        // Eleven bits less for each that goes: 131077.
        for (int k = 1; k <= 10; k++) {
            x.set(2, 62, k + 51, 0);
        }
        Kit.same("16385 bytes", x.write(), -1);
        Kit.same("data as before", x.look(0), (bits.length() + 7) / 8);
        Kit.same("tally has no such limit", x.tally(), 192 + 11895 + 4);
        // 131066.
        x.set(2, 62, 51, 0);
        Kit.same("16384 bytes", x.write(), 16384);
        Kit.same("data", x.look(0), 16384);
        Kit.same("last byte", x.data(16383) & 63, 63);
        Kit.same("no more", x.data(16384), -1);
        Kit.no("no byte more", x.give(0, 1));
        Kit.yes("cut", x.cut(16380));
        Kit.no("five are too many", x.give(0x0102030405L, 5));
        Kit.same("as before", x.look(0), 16380);
        Kit.yes("four", x.give(0xA1A2A3A4L, 4));
        Kit.same("full again", x.look(0), 16384);
        Kit.same("last byte", x.data(16383), 0xA4);
        Kit.no("no byte more", x.give(0, 8));
        Kit.yes("all of it", x.cut(16384));
        Kit.done();
    }
}
