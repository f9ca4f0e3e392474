import java.util.ArrayList;
import java.util.Arrays;
import java.util.HashMap;
import java.util.List;
import java.util.Map;

/** The document once more, in its plainest form, with texts for bits: what ModelTest holds the program against. */
final class Model {
    private static final class Fault extends RuntimeException {
        private static final long serialVersionUID = 1;
        final int number;

        Fault(int number) {
            super(null, null, false, false);
            this.number = number;
        }
    }

    private int many;
    private int unitsAcross;
    private int unitsDown;
    private final int[] h = new int[4];
    private final int[] v = new int[4];
    private final int[] ownAcross = new int[4];
    private final int[] ownDown = new int[4];
    private int[][][] coefficients;
    private int mask;
    private int first;
    private int last;
    private int before;
    private int bits;
    private int interval;
    private final int[] direct = new int[4];
    private final int[] other = new int[4];
    private final int[] counts = new int[17];
    private final List<Integer> symbols = new ArrayList<>();
    private final List<Map<Integer, String>> words = new ArrayList<>();
    private List<Integer> data = new ArrayList<>();
    private Map<Integer, Integer> tallied = new HashMap<>();

    Model() {
        for (int t = 0; t < 8; t++) {
            words.add(new HashMap<>());
        }
        frame(8, 8, 1, 0);
    }

    private static int up(int a, int b) {
        return a % b == 0 ? a / b : a / b + 1;
    }

    boolean frame(int width, int height, int components, int shape) {
        if (width < 1 || width > 64 || height < 1 || height > 64 || components < 1 || components > 4) {
            return false;
        }
        if (shape < 0 || shape >= 1 << 2 * components) {
            return false;
        }
        int[] hs = new int[4];
        int[] vs = new int[4];
        int hm = 0;
        int vm = 0;
        for (int c = 0; c < components; c++) {
            hs[c] = (shape >> 2 * c) % 2 + 1;
            vs[c] = (shape >> 2 * c + 1) % 2 + 1;
            hm = Math.max(hm, hs[c]);
            vm = Math.max(vm, vs[c]);
        }
        int across = up(width, 8 * hm);
        int down = up(height, 8 * vm);
        int[][][] all = new int[components][][];
        int blocks = 0;
        for (int c = 0; c < components; c++) {
            all[c] = new int[hs[c] * across * vs[c] * down][64];
            blocks += all[c].length;
        }
        if (blocks > 192) {
            return false;
        }
        many = components;
        unitsAcross = across;
        unitsDown = down;
        coefficients = all;
        for (int c = 0; c < components; c++) {
            h[c] = hs[c];
            v[c] = vs[c];
            ownAcross[c] = up(up(width * hs[c], hm), 8);
            ownDown[c] = up(up(height * vs[c], vm), 8);
        }
        Arrays.fill(direct, 0);
        Arrays.fill(other, 4);
        interval = 0;
        scan(1, 0, 63, 0, 0);
        return true;
    }

    void counts(long low, long high) {
        for (int k = 0; k < 8; k++) {
            counts[k + 1] = (int) (low >> 8 * k) & 255;
            counts[k + 9] = (int) (high >> 8 * k) & 255;
        }
        symbols.clear();
    }

    private static int byteOf(long part, int k) {
        return (int) (part >> 8 * k) & 255;
    }

    boolean symbols(long part, int n) {
        if (n < 1 || n > 8 || symbols.size() + n > 256) {
            return false;
        }
        for (int k = n - 1; k >= 0; k--) {
            symbols.add(byteOf(part, k));
        }
        return true;
    }

    boolean make(int t) {
        if (t < 0 || t > 7) {
            return false;
        }
        Map<Integer, String> made = new HashMap<>();
        String word = null;
        int next = 0;
        for (int length = 1; length <= 16; length++) {
            for (int i = 0; i < counts[length]; i++) {
                if (next >= symbols.size()) {
                    return false;
                }
                long number = word == null ? 0 : Long.parseLong(word, 2) + 1 << length - word.length();
                if (number >= (1L << length) - 1) {
                    return false;
                }
                word = Kit.binary((int) number, length);
                if (made.put(symbols.get(next), word) != null) {
                    return false;
                }
                next++;
            }
        }
        if (next != symbols.size()) {
            return false;
        }
        words.set(t, made);
        return true;
    }

    boolean scan(int components, int from, int to, int earlier, int low) {
        if (components < 1 || components >= 1 << many || low < 0 || low > 9) {
            return false;
        }
        boolean whole = from == 0 && to == 63 && earlier == 0 && low == 0;
        boolean lows = earlier == 0 || earlier == low + 1;
        boolean onlyDirect = from == 0 && to == 0 && lows;
        boolean one = (components & components - 1) == 0;
        boolean band = from >= 1 && from <= to && to <= 63 && lows && one;
        if (!whole && !onlyDirect && !band) {
            return false;
        }
        mask = components;
        first = from;
        last = to;
        before = earlier;
        bits = low;
        return true;
    }

    boolean tables(int c, int d, int o) {
        if (c < 0 || c >= many || d < 0 || d > 3 || o < 4 || o > 7) {
            return false;
        }
        direct[c] = d;
        other[c] = o;
        return true;
    }

    boolean restart(int n) {
        if (n < 0 || n > 65535) {
            return false;
        }
        interval = n;
        return true;
    }

    private boolean isThere(int c, int block, int k) {
        return c >= 0 && c < many && block >= 0 && block < coefficients[c].length && k >= 0 && k < 64;
    }

    private static boolean canBe(int k, int value) {
        return value <= 1023 && value >= (k == 0 ? -1024 : -1023);
    }

    boolean set(int c, int block, int k, int value) {
        if (!isThere(c, block, k) || !canBe(k, value)) {
            return false;
        }
        coefficients[c][block][k] = value;
        return true;
    }

    int get(int c, int block, int k) {
        return isThere(c, block, k) ? coefficients[c][block][k] : 0;
    }

    /** The units of the scan, each a list of components and blocks. */
    private List<List<int[]>> units() {
        List<List<int[]>> all = new ArrayList<>();
        for (int c = 0; c < many; c++) {
            if (mask == 1 << c) {
                for (int y = 0; y < ownDown[c]; y++) {
                    for (int x = 0; x < ownAcross[c]; x++) {
                        all.add(List.of(new int[] {c, y * h[c] * unitsAcross + x}));
                    }
                }
                return all;
            }
        }
        for (int unit = 0; unit < unitsAcross * unitsDown; unit++) {
            List<int[]> blocks = new ArrayList<>();
            for (int c = 0; c < many; c++) {
                for (int i = 0; (mask >> c) % 2 == 1 && i < h[c] * v[c]; i++) {
                    int x = unit % unitsAcross * h[c] + i % h[c];
                    int y = unit / unitsAcross * v[c] + i / h[c];
                    blocks.add(new int[] {c, y * h[c] * unitsAcross + x});
                }
            }
            all.add(blocks);
        }
        return all;
    }

    // Writing: a text for each part between restarts; words go through here.

    private StringBuilder part;
    private Map<Integer, Integer> tallying;
    private boolean missing;
    private int run;
    private String runBits;
    private int[] predictions;

    private void word(int t, int symbol) {
        tallying.merge(t * 256 + symbol, 1, Integer::sum);
        String found = words.get(t).get(symbol);
        if (found == null) {
            missing = true;
        } else {
            part.append(found);
        }
    }

    private static int size(int number) {
        return number == 0 ? 0 : Integer.toBinaryString(number < 0 ? -number : number).length();
    }

    private static String bitsOf(int d) {
        return Kit.binary(d > 0 ? d : d - 1, size(d));
    }

    private void sendRun(int t) {
        if (run > 0) {
            int n = size(run) - 1;
            word(t, 16 * n);
            part.append(Kit.binary(run, n)).append(runBits);
        }
        run = 0;
        runBits = "";
    }

    private List<String> parts() {
        List<String> all = new ArrayList<>();
        tallying = new HashMap<>();
        missing = false;
        int t = 0;
        begin();
        List<List<int[]>> units = units();
        for (int unit = 0; unit < units.size(); unit++) {
            if (interval > 0 && unit > 0 && unit % interval == 0) {
                sendRun(t);
                all.add(part.toString());
                begin();
            }
            for (int[] block : units.get(unit)) {
                t = other[block[0]];
                int[] values = coefficients[block[0]][block[1]];
                if (first == 0 && before == 0) {
                    int value = values[0] >> bits;
                    int d = value - predictions[block[0]];
                    predictions[block[0]] = value;
                    word(direct[block[0]], size(d));
                    part.append(bitsOf(d));
                } else if (first == 0) {
                    part.append(values[0] >> bits & 1);
                }
                if (last > 0 && before == 0) {
                    others(values, t);
                } else if (last > 0) {
                    refinement(values, t);
                }
            }
        }
        sendRun(t);
        all.add(part.toString());
        return all;
    }

    private void begin() {
        part = new StringBuilder();
        predictions = new int[4];
        run = 0;
        runBits = "";
    }

    private void others(int[] values, int t) {
        int r = 0;
        for (int k = Math.max(first, 1); k <= last; k++) {
            int value = values[k] / (1 << bits);
            if (value == 0) {
                r++;
                continue;
            }
            sendRun(t);
            while (r > 15) {
                word(t, 240);
                r -= 16;
            }
            word(t, 16 * r + size(value));
            part.append(bitsOf(value));
            r = 0;
        }
        if (r > 0 && first == 0) {
            word(t, 0);
        } else if (r > 0) {
            run++;
        }
    }

    private void refinement(int[] values, int t) {
        int lastNew = -1;
        for (int k = first; k <= last; k++) {
            if (Math.abs(values[k]) / (1 << bits) == 1) {
                lastNew = k;
            }
        }
        int r = 0;
        String toCome = "";
        for (int k = first; k <= last; k++) {
            int u = Math.abs(values[k]) / (1 << bits);
            if (u == 0) {
                r++;
                continue;
            }
            while (r > 15 && k <= lastNew) {
                sendRun(t);
                word(t, 240);
                part.append(toCome);
                toCome = "";
                r -= 16;
            }
            if (u > 1) {
                toCome += u % 2;
            } else {
                sendRun(t);
                word(t, 16 * r + 1);
                part.append(values[k] < 0 ? "0" : "1").append(toCome);
                toCome = "";
                r = 0;
            }
        }
        if (r > 0 || !toCome.isEmpty()) {
            run++;
            runBits += toCome;
            if (run == 32767 || runBits.length() > 900) {
                sendRun(t);
            }
        }
    }

    int write() {
        List<String> all = parts();
        List<Integer> bytes = new ArrayList<>();
        for (int i = 0; i < all.size(); i++) {
            if (i > 0) {
                bytes.add(255);
                bytes.add(208 + (i - 1) % 8);
            }
            String hex = Kit.pack(all.get(i));
            for (int k = 0; k < hex.length(); k += 2) {
                bytes.add(Integer.parseInt(hex.substring(k, k + 2), 16));
            }
        }
        if (missing || bytes.size() > 16384) {
            return -1;
        }
        data = bytes;
        return bytes.size();
    }

    int tally() {
        parts();
        tallied = tallying;
        int all = 0;
        for (int n : tallied.values()) {
            all += n;
        }
        return all;
    }

    int often(int t, int s) {
        return t < 0 || t > 7 || s < 0 || s > 255 ? 0 : tallied.getOrDefault(t * 256 + s, 0);
    }

    // Reading: faults are thrown, coefficients are put in a copy.

    private int at;
    private String rest;

    private int bit() {
        if (rest.isEmpty()) {
            if (at == data.size()) {
                throw new Fault(1);
            }
            int value = data.get(at);
            if (value == 255) {
                int next = at + 1 == data.size() ? -1 : data.get(at + 1);
                if (next != 0) {
                    throw new Fault(next / 8 == 26 ? 1 : 6);
                }
                at++;
            }
            at++;
            rest = Kit.binary(value, 8);
        }
        int found = rest.charAt(0) - '0';
        rest = rest.substring(1);
        return found;
    }

    private int number(int n) {
        int found = 0;
        for (int i = 0; i < n; i++) {
            found = 2 * found + bit();
        }
        return found;
    }

    private int signed(int n) {
        int found = number(n);
        return n == 0 || found >= 1 << n - 1 ? found : found - (1 << n) + 1;
    }

    private int symbol(int t) {
        String taken = "";
        while (true) {
            boolean begins = false;
            for (Map.Entry<Integer, String> one : words.get(t).entrySet()) {
                if (one.getValue().equals(taken)) {
                    return one.getKey();
                }
                begins |= one.getValue().startsWith(taken);
            }
            if (!begins) {
                throw new Fault(2);
            }
            taken += bit();
        }
    }

    private void refuse(boolean wrong, int fault) {
        if (wrong) {
            throw new Fault(fault);
        }
    }

    int read() {
        int[][][] copy = new int[many][][];
        for (int c = 0; c < many; c++) {
            copy[c] = new int[coefficients[c].length][];
            for (int b = 0; b < copy[c].length; b++) {
                copy[c][b] = coefficients[c][b].clone();
            }
        }
        try {
            readInto(copy);
        } catch (Fault fault) {
            return fault.number;
        }
        coefficients = copy;
        return 0;
    }

    private void readInto(int[][][] copy) {
        at = 0;
        rest = "";
        begin();
        List<List<int[]>> units = units();
        for (int unit = 0; unit < units.size(); unit++) {
            if (interval > 0 && unit > 0 && unit % interval == 0) {
                refuse(run > 0 || rest.contains("0") || at + 2 > data.size(), 5);
                refuse(data.get(at) != 255 || data.get(at + 1) != 208 + (unit / interval - 1) % 8, 5);
                at += 2;
                rest = "";
                begin();
            }
            for (int[] block : units.get(unit)) {
                readBlock(copy[block[0]][block[1]], block[0]);
            }
        }
        refuse(run > 0 || rest.contains("0") || at < data.size(), 5);
    }

    private void readBlock(int[] values, int c) {
        if (first == 0 && before == 0) {
            int s = symbol(direct[c]);
            refuse(s > 11, 3);
            int value = predictions[c] + signed(s);
            predictions[c] = value;
            refuse(!canBe(0, value << bits), 4);
            values[0] = value << bits;
        } else if (first == 0 && bit() == 1 && (values[0] >> bits) % 2 == 0) {
            values[0] += 1 << bits;
        }
        if (last > 0 && before == 0) {
            readOthers(values, other[c]);
        } else if (last > 0) {
            readRefinement(values, other[c]);
        }
    }

    private void readOthers(int[] values, int t) {
        int k = Math.max(1, first);
        Arrays.fill(values, k, last + 1, 0);
        while (k <= last && run == 0) {
            int symbol = symbol(t);
            int r = symbol / 16;
            int s = symbol % 16;
            refuse(s > 10, 3);
            if (s == 0 && r < 15) {
                refuse(first == 0 && r > 0, 3);
                if (first == 0) {
                    return;
                }
                run = (1 << r) + number(r);
                break;
            }
            refuse(k + r > last, 3);
            k += r;
            if (s > 0) {
                int value = signed(s) * (1 << bits);
                refuse(!canBe(k, value), 4);
                values[k] = value;
            }
            k++;
        }
        run = Math.max(0, run - 1);
    }

    private void readRefinement(int[] values, int t) {
        int k = first;
        while (k <= last && run == 0) {
            int symbol = symbol(t);
            int r = symbol / 16;
            int s = symbol % 16;
            refuse(s > 1, 3);
            if (s == 0 && r < 15) {
                run = (1 << r) + number(r);
                break;
            }
            int value = s == 0 ? 0 : bit() == 1 ? 1 << bits : -1 << bits;
            while (k <= last && (values[k] != 0 || r > 0)) {
                if (values[k] == 0) {
                    r--;
                } else {
                    improve(values, k);
                }
                k++;
            }
            refuse(k > last, 3);
            values[k] = value;
            k++;
        }
        if (run > 0) {
            for (; k <= last; k++) {
                if (values[k] != 0) {
                    improve(values, k);
                }
            }
            run--;
        }
    }

    private void improve(int[] values, int k) {
        int amount = Math.abs(values[k]);
        if (bit() == 1 && amount / (1 << bits) % 2 == 0) {
            values[k] = Integer.signum(values[k]) * (amount + (1 << bits));
        }
    }

    boolean give(long value, int n) {
        if (n < 1 || n > 8 || data.size() + n > 16384) {
            return false;
        }
        for (int k = n - 1; k >= 0; k--) {
            data.add(byteOf(value, k));
        }
        return true;
    }

    boolean cut(int n) {
        if (n < 0 || n > data.size()) {
            return false;
        }
        data = new ArrayList<>(data.subList(0, n));
        return true;
    }

    int data(int k) {
        return k < 0 || k >= data.size() ? -1 : data.get(k);
    }

    int look(int which) {
        int[] firstOnes = {data.size(), 0, units().size(), interval, 0, 0};
        for (int[][] blocks : coefficients) {
            firstOnes[1] += blocks.length;
            for (int[] block : blocks) {
                for (int value : block) {
                    firstOnes[4] += value == 0 ? 0 : 1;
                }
            }
        }
        for (Map<Integer, String> table : words) {
            firstOnes[5] += table.size();
        }
        if (which >= 0 && which < 6) {
            return firstOnes[which];
        }
        if (which < 8 || which >= 8 + 4 * many) {
            return -1;
        }
        int c = which / 4 - 2;
        return new int[] {h[c] * unitsAcross, v[c] * unitsDown, ownAcross[c], ownDown[c]}[which % 4];
    }
}
