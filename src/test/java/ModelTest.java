import java.util.ArrayList;
import java.util.List;

/** All promises: long runs of calls, made up by a fixed rule, are answered as Model answers them. */
public final class ModelTest {
    private static final int RUNS = 2500;
    private static final int CALLS = 512;
    private static final int[] EDGES = {-1, 0, 1, 2, 3, 4, 5, 7, 8, 9, 10, 15, 16, 63, 64, 65, 255, 256, 1023, 1024,
        -1023, -1024, -1025, 65535, 65536, Integer.MIN_VALUE, Integer.MAX_VALUE};
    // Symbols that are of use in bands and refinements, and some that are wrong in one of them.
    private static final int[] USEFUL = {0, 1, 2, 3, 16, 17, 32, 33, 18, 48, 49, 64, 80, 240, 241, 10, 11, 26, 113, 225};

    private long seed;
    private int calls;
    private ScanCoder x = new ScanCoder();
    private Model m = new Model();
    private final List<String> log = new ArrayList<>();
    private static final int[] FAULTS = new int[7];

    private ModelTest(int run) {
        seed = 0x9E3779B97F4A7C15L * (run + 1);
    }

    public static void main(String[] args) {
        int runs = args.length > 0 ? Integer.parseInt(args[0]) : RUNS;
        for (int run = 0; run < runs; run++) {
            new ModelTest(run).go();
        }
        for (int fault = 0; fault < FAULTS.length; fault++) {
            Kit.yes("fault " + fault + " came often enough, " + FAULTS[fault], FAULTS[fault] >= runs / 100);
        }
        Kit.done();
    }

    private int pick(int below) {
        seed += 0x9E3779B97F4A7C15L;
        long z = (seed ^ seed >>> 30) * 0xBF58476D1CE4E5B9L;
        z = (z ^ z >>> 27) * 0x94D049BB133111EBL;
        return (int) Math.floorMod(z ^ z >>> 31, (long) below);
    }

    private long pickLong() {
        return (long) pick(1 << 30) << 34 ^ (long) pick(1 << 30) << 17 ^ pick(1 << 30);
    }

    private int edge() {
        return EDGES[pick(EDGES.length)];
    }

    private int due(String call, int got, int want) {
        calls++;
        log.add(call + " = " + want);
        if (got != want) {
            for (String line : log) {
                System.out.println(line);
            }
            System.out.println(call + " answered " + got + ", due is " + want);
            System.exit(1);
        }
        return want;
    }

    private boolean due(String call, boolean got, boolean want) {
        return due(call, got ? 1 : 0, want ? 1 : 0) == 1;
    }

    private void go() {
        x = new ScanCoder();
        m = new Model();
        prepare();
        while (calls < CALLS - 130) {
            switch (pick(12)) {
                case 0:
                    wild();
                    break;
                case 1:
                    if (pick(4) == 0) {
                        prepare();
                    }
                    break;
                case 2:
                case 3:
                    coefficients(pick(30));
                    break;
                case 4:
                case 5:
                case 6:
                    scan();
                    break;
                case 7:
                    restart(pick(6));
                    break;
                case 8:
                    tally();
                    break;
                case 9:
                    randomData();
                    break;
                default:
                    writeAndRead();
                    break;
            }
        }
        while (calls < CALLS) {
            samples();
        }
    }

    private void prepare() {
        int many = 1 + pick(4);
        int most = pick(4) == 0 ? 64 : 24;
        frame(1 + pick(most), 1 + pick(most), many, pick(3) == 0 ? 0 : pick(1 << 2 * many));
        for (int t = 0; t < 8; t++) {
            if (t % 4 == 0 || pick(5) == 0) {
                table(t);
            }
        }
        for (int c = 0; c < 4; c++) {
            if (pick(3) == 0) {
                tables(c, pick(4), 4 + pick(4));
            }
        }
    }

    private void frame(int width, int height, int many, int shape) {
        due("frame(" + width + ", " + height + ", " + many + ", " + shape + ")", x.frame(width, height, many, shape),
                m.frame(width, height, many, shape));
    }

    private void tables(int c, int direct, int other) {
        due("tables(" + c + ", " + direct + ", " + other + ")", x.tables(c, direct, other), m.tables(c, direct, other));
    }

    private void restart(int n) {
        due("restart(" + n + ")", x.restart(n), m.restart(n));
    }

    /** A table of all symbols, or of some useful ones, by a tree whose leaves are split at random. */
    private void table(int t) {
        List<Integer> symbols = new ArrayList<>();
        if (t < 4) {
            for (int s = 0; s < 12 + pick(2); s++) {
                symbols.add(s);
            }
        } else if (pick(2) == 0) {
            for (int s = 0; s < 256; s++) {
                symbols.add(s);
            }
        } else {
            for (int s : USEFUL) {
                if (pick(4) != 0) {
                    symbols.add(s);
                }
            }
        }
        for (int i = symbols.size() - 1; i > 0; i--) {
            symbols.set(i, symbols.set(pick(i + 1), symbols.get(i)));
        }
        int[] counts = leaves(symbols.size());
        long low = 0;
        long high = 0;
        for (int k = 0; k < 8; k++) {
            low |= (long) counts[k + 1] << 8 * k;
            high |= (long) counts[k + 9] << 8 * k;
        }
        counts(low, high);
        for (int i = 0; i < symbols.size(); i += 8) {
            int n = Math.min(8, symbols.size() - i);
            long part = pick(2);
            for (int k = 0; k < n; k++) {
                part = part << 8 | symbols.get(i + k);
            }
            due("symbols(" + part + ", " + n + ")", x.symbols(part, n), m.symbols(part, n));
        }
        due("make(" + t + ")", x.make(t), m.make(t));
    }

    private void counts(long low, long high) {
        calls++;
        log.add("counts(" + low + ", " + high + ")");
        x.counts(low, high);
        m.counts(low, high);
    }

    private int[] leaves(int words) {
        int[] counts = new int[17];
        counts[1] = 2;
        for (int have = 2; have < words + 1; have++) {
            int depth = 1 + pick(words > 100 ? 12 : 6);
            while (counts[depth] == 0 || depth == 16) {
                depth = depth % 15 + 1;
            }
            counts[depth]--;
            counts[depth + 1] += 2;
        }
        int deepest = 16;
        while (counts[deepest] == 0) {
            deepest--;
        }
        counts[deepest]--;
        return counts;
    }

    private void coefficients(int some) {
        int range = new int[] {1, 2, 4, 16, 1023}[pick(5)];
        for (int i = 0; i < some; i++) {
            int c = pick(4);
            int block = pick(pick(2) == 0 ? 3 : 20);
            int k = pick(3) == 0 ? 0 : pick(64);
            int v = pick(2 * range + 1) - range;
            set(c, block, k, v);
        }
    }

    private void set(int c, int block, int k, int v) {
        due("set(" + c + ", " + block + ", " + k + ", " + v + ")", x.set(c, block, k, v), m.set(c, block, k, v));
    }

    private void scan() {
        int bits = pick(3) == 0 ? pick(10) : pick(3);
        int before = pick(2) == 0 ? 0 : bits + 1;
        int first = 1 + pick(pick(2) == 0 ? 63 : 3);
        int last = pick(2) == 0 ? 63 : first + pick(64 - first);
        int mask = pick(2) == 0 ? 1 << pick(4) : 1 + pick(15);
        if (pick(20) == 0) {
            scan(mask, edge(), edge(), edge(), edge());
        } else if (pick(3) == 0) {
            scan(mask, 0, 63, 0, 0);
        } else if (pick(3) == 0) {
            scan(mask, 0, 0, before, bits);
        } else {
            scan(Integer.lowestOneBit(mask), first, last, before, bits);
        }
    }

    private void scan(int mask, int first, int last, int before, int bits) {
        due("scan(" + mask + ", " + first + ", " + last + ", " + before + ", " + bits + ")",
                x.scan(mask, first, last, before, bits), m.scan(mask, first, last, before, bits));
    }

    private void tally() {
        due("tally()", x.tally(), m.tally());
        for (int i = 0; i < 6; i++) {
            int t = pick(8);
            int s = t < 4 ? pick(13) : USEFUL[pick(USEFUL.length)];
            due("often(" + t + ", " + s + ")", x.often(t, s), m.often(t, s));
        }
    }

    private void read() {
        int fault = due("read()", x.read(), m.read());
        FAULTS[fault]++;
        if (pick(3) == 0) {
            due("look(4)", x.look(4), m.look(4));
        }
    }

    private void writeAndRead() {
        int bytes = due("write()", x.write(), m.write());
        for (int i = 0; i < 6 && bytes > 0; i++) {
            int k = pick(bytes);
            due("data(" + k + ")", x.data(k), m.data(k));
        }
        int way = pick(5);
        if (way == 0) {
            cut(pick(Math.max(1, m.look(0) + 2)));
        } else if (way == 1) {
            give(pickBytes(), 1 + pick(2));
        } else if (way == 2 && m.look(0) > 0) {
            spoil(pick(m.look(0)));
        }
        if (pick(4) == 0) {
            coefficients(pick(4));
        }
        if (pick(5) == 0) {
            restart(pick(6));
        }
        read();
    }

    /** Another byte somewhere near the end; what follows it comes again. */
    private void spoil(int place) {
        int length = m.look(0);
        int from = Math.max(place, length - 40);
        List<Integer> tail = new ArrayList<>();
        for (int k = from + 1; k < length; k++) {
            tail.add(m.data(k));
        }
        cut(from);
        give(pickBytes(), 1);
        for (int i = 0; i < tail.size(); i += 8) {
            long part = 0;
            int n = Math.min(8, tail.size() - i);
            for (int k = 0; k < n; k++) {
                part = part << 8 | tail.get(i + k);
            }
            give(part, n);
        }
    }

    private void cut(int n) {
        due("cut(" + n + ")", x.cut(n), m.cut(n));
    }

    private void give(long v, int n) {
        due("give(" + v + ", " + n + ")", x.give(v, n), m.give(v, n));
    }

    /** Bytes among which 255, 0 and restarts are not rare. */
    private long pickBytes() {
        long found = pickLong();
        for (int k = 0; k < 8; k++) {
            int kind = pick(8);
            if (kind == 0) {
                found |= 255L << 8 * k;
            } else if (kind == 1) {
                found &= ~(255L << 8 * k);
            } else if (kind == 2) {
                found = found & ~(255L << 8 * k) | 208L + pick(8) << 8 * k;
            }
        }
        return found;
    }

    private void randomData() {
        cut(0);
        for (int i = pick(12); i > 0; i--) {
            give(pick(3) == 0 ? pickBytes() : pickLong(), 8);
        }
        read();
    }

    private void wild() {
        switch (pick(9)) {
            case 0:
                frame(pick(3) == 0 ? edge() : 8, pick(3) == 0 ? edge() : 8, pick(3) == 0 ? edge() : 2,
                        pick(3) == 0 ? edge() : pick(16));
                break;
            case 1:
                counts(pick(4) << 8 * pick(4), 0);
                break;
            case 2:
                int n = pick(2) == 0 ? edge() : pick(4);
                long part = pickLong();
                due("symbols(" + part + ", " + n + ")", x.symbols(part, n), m.symbols(part, n));
                int t = pick(2) == 0 ? edge() : pick(8);
                due("make(" + t + ")", x.make(t), m.make(t));
                break;
            case 3:
                tables(pick(2) == 0 ? edge() : 0, pick(2) == 0 ? edge() : 1, pick(2) == 0 ? edge() : 5);
                break;
            case 4:
                restart(edge());
                break;
            case 5:
                set(pick(2) == 0 ? edge() : 0, pick(2) == 0 ? edge() : 0, pick(2) == 0 ? edge() : 1, edge());
                break;
            case 6:
                give(pickLong(), edge());
                cut(edge());
                break;
            case 7:
                int s = edge();
                int from = edge();
                due("often(" + from + ", " + s + ")", x.often(from, s), m.often(from, s));
                break;
            default:
                samples();
                break;
        }
    }

    private void samples() {
        int c = pick(8) == 0 ? edge() : pick(4);
        int block = pick(8) == 0 ? edge() : pick(pick(2) == 0 ? 3 : 20);
        int k = pick(8) == 0 ? edge() : pick(64);
        due("get(" + c + ", " + block + ", " + k + ")", x.get(c, block, k), m.get(c, block, k));
        int which = pick(8) == 0 ? edge() : pick(26);
        due("look(" + which + ")", x.look(which), m.look(which));
        int place = pick(8) == 0 ? edge() : pick(m.look(0) + 1);
        due("data(" + place + ")", x.data(place), m.data(place));
    }
}
