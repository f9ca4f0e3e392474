/** What the tests share: checks, tables whose words are easily told, and bits as texts. */
final class Kit {
    private static int wrong = 0;

    private Kit() {
    }

    static void same(String what, long got, long want) {
        if (got != want) {
            wrong++;
            System.out.println(what + ": answered " + got + ", due is " + want);
        }
    }

    static void yes(String what, boolean got) {
        same(what, got ? 1 : 0, 1);
    }

    static void no(String what, boolean got) {
        same(what, got ? 1 : 0, 0);
    }

    static void done() {
        System.out.println(wrong == 0 ? "all answers are as due" : wrong + " answers are not as due");
        if (wrong != 0) {
            System.exit(1);
        }
    }

    /** A new object whose table 0 has direct(s) and table 4 other(s) as words. */
    static ScanCoder coder() {
        ScanCoder x = new ScanCoder();
        fillDirect(x, 0);
        fillOther(x, 4);
        return x;
    }

    static void fillDirect(ScanCoder x, int t) {
        x.counts(12L << 24, 0);
        yes("direct symbols", x.symbols(0x0001020304050607L, 8));
        yes("direct symbols", x.symbols(0x08090A0BL, 4));
        yes("direct table", x.make(t));
    }

    static void fillOther(ScanCoder x, int t) {
        x.counts(0, 255L | 1L << 8);
        for (int s = 0; s < 256; s += 8) {
            long part = 0;
            for (int i = 0; i < 8; i++) {
                part = part << 8 | s + i;
            }
            yes("other symbols", x.symbols(part, 8));
        }
        yes("other table", x.make(t));
    }

    /** The draft becomes one of these words (how many of 1, 2, .. bits) and symbols. */
    static void draft(ScanCoder x, int[] counts, int... symbols) {
        long[] halves = new long[2];
        for (int k = 0; k < counts.length; k++) {
            halves[k / 8] |= (long) counts[k] << 8 * (k % 8);
        }
        x.counts(halves[0], halves[1]);
        for (int i = 0; i < symbols.length; i += 8) {
            int n = Math.min(8, symbols.length - i);
            long part = 0;
            for (int k = 0; k < n; k++) {
                part = part << 8 | symbols[i + k];
            }
            yes("symbols", x.symbols(part, n));
        }
    }

    /** A draft that is made the table t: whether it could be. */
    static boolean table(ScanCoder x, int t, int[] counts, int... symbols) {
        draft(x, counts, symbols);
        return x.make(t);
    }

    /** Symbols 0, 1, .. as many as asked. */
    static int[] upTo(int many) {
        int[] all = new int[many];
        for (int s = 0; s < many; s++) {
            all[s] = s;
        }
        return all;
    }

    /** Counts that are 0 but for words of one length. */
    static int[] only(int length, int count) {
        int[] counts = new int[16];
        counts[length - 1] = count;
        return counts;
    }

    /** The word that fillDirect gives a symbol 0 .. 11: the symbol itself, in four bits. */
    static String direct(int s) {
        return binary(s, 4);
    }

    /** The word that fillOther gives a symbol 0 .. 254: the symbol itself, in nine bits. */
    static String other(int s) {
        return binary(s, 9);
    }

    static String binary(int number, int digits) {
        StringBuilder text = new StringBuilder();
        for (int i = digits - 1; i >= 0; i--) {
            text.append(number >> i & 1);
        }
        return text.toString();
    }

    /** Bits as bytes in hexadecimal digits, filled up with 1s, a 00 behind each FF. */
    static String pack(String bits) {
        StringBuilder text = new StringBuilder();
        StringBuilder filled = new StringBuilder(bits);
        while (filled.length() % 8 != 0) {
            filled.append('1');
        }
        for (int i = 0; i < filled.length(); i += 8) {
            String one = String.format("%02X", Integer.parseInt(filled.substring(i, i + 8), 2));
            text.append(one).append(one.equals("FF") ? "00" : "");
        }
        return text.toString();
    }

    static String repeat(String text, int times) {
        return text.repeat(times);
    }

    /** The data become these bytes. */
    static void load(ScanCoder x, String hex) {
        yes("cut(0)", x.cut(0));
        for (int i = 0; i < hex.length(); i += 16) {
            String part = hex.substring(i, Math.min(hex.length(), i + 16));
            yes("give", x.give(Long.parseUnsignedLong(part, 16), part.length() / 2));
        }
    }

    static String dump(ScanCoder x) {
        StringBuilder text = new StringBuilder();
        for (int k = 0; k < x.look(0); k++) {
            text.append(String.format("%02X", x.data(k)));
        }
        return text.toString();
    }

    static void sameText(String what, String got, String want) {
        if (!got.equals(want)) {
            wrong++;
            System.out.println(what + ": " + got + ", due is " + want);
        }
    }

    static void writes(String what, ScanCoder x, String hex) {
        same(what + ", bytes", x.write(), hex.length() / 2);
        sameText(what, dump(x), hex);
    }

    static void reads(String what, ScanCoder x, String hex, int fault) {
        load(x, hex);
        same(what + ", read", x.read(), fault);
    }
}
