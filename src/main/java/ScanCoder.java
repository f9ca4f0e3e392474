import java.util.Arrays;

/**
 * Scans of pictures: quantised coefficients of blocks, written as words and bits and read again, with restarts;
 * what is read that can not be there is refused by its first fault.
 */
public final class ScanCoder {
    public static final int NONE = -1;

    private static final int MOST_SIDE = 64;
    private static final int MOST_COMPONENTS = 4;
    private static final int MOST_BLOCKS = 192;
    private static final int COEFFICIENTS = 64;
    private static final int LAST_COEFFICIENT = 63;
    private static final int MOST_DIRECT = 1023;
    private static final int LEAST_DIRECT = -1024;
    private static final int MOST_AMOUNT = 1023;

    private static final int TABLES = 8;
    private static final int FIRST_OTHER_TABLE = 4;
    private static final int SYMBOLS = 256;
    private static final int LONGEST_WORD = 16;
    private static final int SIXTEEN_ZEROS = 240;
    private static final int MOST_DIRECT_SIZE = 11;
    private static final int MOST_OTHER_SIZE = 10;

    private static final int WHOLE = 0;
    private static final int DIRECT = 1;
    private static final int DIRECT_REFINEMENT = 2;
    private static final int BAND = 3;
    private static final int BAND_REFINEMENT = 4;
    private static final int MOST_BITS = 9;
    private static final int MOST_INTERVAL = 65535;
    private static final int MOST_RUN = 32767;
    private static final int MOST_HELD_BITS = 900;

    private static final int MOST_BYTES = 16384;
    private static final int FULL_BYTE = 255;
    private static final int FIRST_RESTART = 208;
    private static final int LAST_RESTART = 215;

    private static final int BITS_END = 1;
    private static final int NO_WORD = 2;
    private static final int WRONG_SYMBOL = 3;
    private static final int WRONG_COEFFICIENT = 4;
    private static final int WRONG_END = 5;
    private static final int WRONG_BYTE = 6;

    private final Picture picture;
    private final Course course;
    private final Draft draft;
    private final Table[] allTables;
    private final Store store;
    private final Counter counter;
    private final BitWriter writer;
    private final Encoder encoder;
    private final Decoder decoder;

    public ScanCoder() {
        picture = new Picture();
        course = new Course(picture);
        draft = new Draft();
        allTables = new Table[TABLES];
        for (int t = 0; t < TABLES; t++) {
            allTables[t] = new Table();
        }
        store = new Store();
        counter = new Counter();
        writer = new BitWriter(allTables, store);
        encoder = new Encoder(picture, course, counter);
        decoder = new Decoder(picture, course, allTables, new BitReader(store));
    }

    public boolean frame(int width, int height, int many, int shape) {
        if (!Picture.fits(width, height, many, shape)) {
            return false;
        }
        picture.become(width, height, many, shape);
        course.startAnew();
        return true;
    }

    public void counts(long low, long high) {
        draft.begin(low, high);
    }

    public boolean symbols(long part, int n) {
        return draft.append(part, n);
    }

    public boolean make(int t) {
        if (t < 0 || t >= TABLES || !draft.isTable()) {
            return false;
        }
        allTables[t].become(draft);
        return true;
    }

    public boolean scan(int mask, int first, int last, int before, int bits) {
        int kind = Course.kindOf(first, last, before, bits);
        if (kind == NONE || !course.allows(kind, mask)) {
            return false;
        }
        course.choose(kind, first, last, bits);
        course.lay(mask);
        return true;
    }

    public boolean tables(int c, int direct, int other) {
        if (c < 0 || c >= picture.many || direct < 0 || direct >= FIRST_OTHER_TABLE
                || other < FIRST_OTHER_TABLE || other >= TABLES) {
            return false;
        }
        course.directTables[c] = direct;
        course.otherTables[c] = other;
        return true;
    }

    public boolean restart(int interval) {
        if (interval < 0 || interval > MOST_INTERVAL) {
            return false;
        }
        course.interval = interval;
        return true;
    }

    public boolean set(int c, int block, int k, int v) {
        int place = picture.placeOf(c, block, k);
        if (place == NONE || !Picture.canBe(k, v)) {
            return false;
        }
        picture.coefficients[place] = (short) v;
        return true;
    }

    public int get(int c, int block, int k) {
        int place = picture.placeOf(c, block, k);
        return place == NONE ? 0 : picture.coefficients[place];
    }

    /** Goes over the scan twice: what can not be written must leave the data as they are. */
    public int write() {
        writer.begin(false);
        encoder.encode(writer);
        if (writer.lacksWord || writer.length > MOST_BYTES) {
            return NONE;
        }
        store.reserve(writer.length);
        writer.begin(true);
        encoder.encode(writer);
        store.length = writer.length;
        return store.length;
    }

    /** Goes over the data twice: what has a fault must leave the coefficients as they are. */
    public int read() {
        int fault = decoder.decode(false);
        return fault == 0 ? decoder.decode(true) : fault;
    }

    public int tally() {
        counter.begin();
        encoder.encode(counter);
        return counter.total;
    }

    public int often(int t, int s) {
        if (t < 0 || t >= TABLES || s < 0 || s >= SYMBOLS) {
            return 0;
        }
        return counter.times[t * SYMBOLS + s];
    }

    public boolean give(long v, int n) {
        return store.append(v, n);
    }

    public boolean cut(int n) {
        if (n < 0 || n > store.length) {
            return false;
        }
        store.length = n;
        return true;
    }

    public int data(int k) {
        return store.byteAt(k);
    }

    public int look(int which) {
        switch (which) {
            case 0:
                return store.length;
            case 1:
                return picture.blocks;
            case 2:
                return course.units;
            case 3:
                return course.interval;
            case 4:
                return picture.countOthersThanZero();
            case 5:
                return countWords();
            default:
                return which < 8 ? NONE : picture.measure((which - 8) / 4, which % 4);
        }
    }

    private int countWords() {
        int all = 0;
        for (int t = 0; t < TABLES; t++) {
            all += allTables[t].size;
        }
        return all;
    }

    /** How many bits the amount of a number has. */
    private static int sizeOf(int number) {
        int size = 0;
        for (int rest = Math.abs(number); rest > 0; rest >>= 1) {
            size++;
        }
        return size;
    }

    /** The frame, and the coefficients of all its blocks. */
    private static final class Picture {
        final int[] h = new int[MOST_COMPONENTS];
        final int[] v = new int[MOST_COMPONENTS];
        final int[] across = new int[MOST_COMPONENTS];
        final int[] down = new int[MOST_COMPONENTS];
        final int[] ownAcross = new int[MOST_COMPONENTS];
        final int[] ownDown = new int[MOST_COMPONENTS];
        final int[] start = new int[MOST_COMPONENTS];
        int many;
        int unitsAcross;
        int unitsDown;
        int blocks;
        // Grows with the largest frame so far: most objects never need all 192 blocks.
        short[] coefficients = new short[COEFFICIENTS];

        Picture() {
            become(8, 8, 1, 0);
        }

        static boolean fits(int width, int height, int many, int shape) {
            if (width < 1 || width > MOST_SIDE || height < 1 || height > MOST_SIDE) {
                return false;
            }
            if (many < 1 || many > MOST_COMPONENTS || shape >>> (2 * many) != 0) {
                return false;
            }
            int units = divideUp(width, 8 * greatest(many, shape)) * divideUp(height, 8 * greatest(many, shape >> 1));
            int all = 0;
            for (int c = 0; c < many; c++) {
                all += units * factor(c, shape) * factor(c, shape >> 1);
            }
            return all <= MOST_BLOCKS;
        }

        static boolean canBe(int k, int value) {
            int least = k == 0 ? LEAST_DIRECT : -MOST_AMOUNT;
            int most = k == 0 ? MOST_DIRECT : MOST_AMOUNT;
            return value >= least && value <= most;
        }

        /** H of component c; V of it if the shape is given one bit lower. */
        private static int factor(int c, int shape) {
            return 1 + (shape >> (2 * c) & 1);
        }

        private static int greatest(int many, int shape) {
            int found = 1;
            for (int c = 0; c < many; c++) {
                found = Math.max(found, factor(c, shape));
            }
            return found;
        }

        private static int divideUp(int number, int divisor) {
            return divisor < 1 ? 0 : (number + divisor - 1) / divisor;
        }

        void become(int width, int height, int components, int shape) {
            int hm = greatest(components, shape);
            int vm = greatest(components, shape >> 1);
            many = components;
            unitsAcross = divideUp(width, 8 * hm);
            unitsDown = divideUp(height, 8 * vm);
            blocks = 0;
            for (int c = 0; c < many; c++) {
                h[c] = factor(c, shape);
                v[c] = factor(c, shape >> 1);
                across[c] = h[c] * unitsAcross;
                down[c] = v[c] * unitsDown;
                ownAcross[c] = divideUp(divideUp(width * h[c], hm), 8);
                ownDown[c] = divideUp(divideUp(height * v[c], vm), 8);
                start[c] = blocks;
                blocks += across[c] * down[c];
            }
            clear();
        }

        private void clear() {
            int needed = blocks * COEFFICIENTS;
            if (needed > coefficients.length) {
                int doubled = Math.min(2 * coefficients.length, MOST_BLOCKS * COEFFICIENTS);
                coefficients = new short[Math.max(needed, doubled)];
            } else {
                Arrays.fill(coefficients, (short) 0);
            }
        }

        int placeOf(int c, int block, int k) {
            if (c < 0 || c >= many || k < 0 || k >= COEFFICIENTS) {
                return NONE;
            }
            if (block < 0 || block >= across[c] * down[c]) {
                return NONE;
            }
            return (start[c] + block) * COEFFICIENTS + k;
        }

        int countOthersThanZero() {
            int found = 0;
            for (int i = 0; i < blocks * COEFFICIENTS; i++) {
                if (coefficients[i] != 0) {
                    found++;
                }
            }
            return found;
        }

        int measure(int c, int which) {
            if (c < 0 || c >= many) {
                return NONE;
            }
            switch (which) {
                case 0:
                    return across[c];
                case 1:
                    return down[c];
                case 2:
                    return ownAcross[c];
                case 3:
                    return ownDown[c];
                default:
                    return NONE;
            }
        }
    }

    /** The scan: what it tells of its blocks, and in which order it comes to them. */
    private static final class Course {
        private final Picture picture;
        // For each block of the scan, one after the other: its component, and where its coefficients begin.
        final int[] owners = new int[MOST_BLOCKS];
        final int[] places = new int[MOST_BLOCKS];
        final int[] directTables = new int[MOST_COMPONENTS];
        final int[] otherTables = new int[MOST_COMPONENTS];
        int kind;
        int first;
        int last;
        int bits;
        int interval;
        int units;
        int blocksOfUnit;
        private int laid;

        Course(Picture picture) {
            this.picture = picture;
            startAnew();
        }

        void startAnew() {
            Arrays.fill(directTables, 0);
            Arrays.fill(otherTables, FIRST_OTHER_TABLE);
            interval = 0;
            choose(WHOLE, 0, LAST_COEFFICIENT, 0);
            lay(1);
        }

        static int kindOf(int first, int last, int before, int bits) {
            if (bits < 0 || bits > MOST_BITS || before != 0 && before != bits + 1) {
                return NONE;
            }
            boolean refines = before != 0;
            if (first == 0 && last == 0) {
                return refines ? DIRECT_REFINEMENT : DIRECT;
            }
            if (first == 0) {
                return last == LAST_COEFFICIENT && bits == 0 && !refines ? WHOLE : NONE;
            }
            if (first < 0 || last < first || last > LAST_COEFFICIENT) {
                return NONE;
            }
            return refines ? BAND_REFINEMENT : BAND;
        }

        boolean allows(int ofKind, int mask) {
            if (mask == 0 || mask >>> picture.many != 0) {
                return false;
            }
            return ofKind != BAND && ofKind != BAND_REFINEMENT || Integer.bitCount(mask) == 1;
        }

        void choose(int ofKind, int from, int to, int lowBits) {
            kind = ofKind;
            first = from;
            last = to;
            bits = lowBits;
        }

        void lay(int mask) {
            laid = 0;
            if (Integer.bitCount(mask) == 1) {
                layOne(mask);
            } else {
                laySeveral(mask);
            }
        }

        private void layOne(int mask) {
            for (int c = 0; c < picture.many; c++) {
                if ((mask >> c & 1) == 1) {
                    layRows(c, 0, 0, picture.ownAcross[c], picture.ownDown[c]);
                }
            }
            units = laid;
            blocksOfUnit = 1;
        }

        private void laySeveral(int mask) {
            units = picture.unitsAcross * picture.unitsDown;
            for (int y = 0; y < picture.unitsDown; y++) {
                for (int x = 0; x < picture.unitsAcross; x++) {
                    layUnit(mask, x, y);
                }
            }
            blocksOfUnit = units < 1 ? 0 : laid / units;
        }

        private void layUnit(int mask, int x, int y) {
            for (int c = 0; c < picture.many; c++) {
                if ((mask >> c & 1) == 1) {
                    int h = picture.h[c];
                    int v = picture.v[c];
                    layRows(c, x * h, y * v, h, v);
                }
            }
        }

        private void layRows(int c, int left, int top, int width, int height) {
            for (int y = top; y < top + height; y++) {
                for (int x = left; x < left + width; x++) {
                    int place = picture.placeOf(c, y * picture.across[c] + x, 0);
                    if (place != NONE && laid < MOST_BLOCKS) {
                        owners[laid] = c;
                        places[laid] = place;
                        laid++;
                    }
                }
            }
        }

        boolean restartsAhead(int unit) {
            return interval > 0 && unit > 0 && unit % interval == 0;
        }

        /** Which of the eight restarts comes ahead of a unit. */
        int restartAhead(int unit) {
            return interval > 0 ? FIRST_RESTART + (unit / interval - 1 & 7) : NONE;
        }
    }

    /** Counts and symbols on their way to become a table. */
    private static final class Draft {
        final int[] counts = new int[LONGEST_WORD + 1];
        final int[] symbols = new int[SYMBOLS];
        private final byte[] seen = new byte[SYMBOLS];
        int size;

        void begin(long low, long high) {
            for (int k = 0; k < 8; k++) {
                counts[k + 1] = (int) (low >>> (8 * k) & 255);
                counts[k + 9] = (int) (high >>> (8 * k) & 255);
            }
            size = 0;
        }

        boolean append(long part, int n) {
            if (n < 1 || n > 8 || size + n > SYMBOLS) {
                return false;
            }
            for (int k = n - 1; k >= 0; k--) {
                symbols[size] = (int) (part >>> (8 * k) & 255);
                size++;
            }
            return true;
        }

        boolean isTable() {
            int words = 0;
            for (int length = 1; length <= LONGEST_WORD; length++) {
                words += counts[length];
            }
            return words == size && !hasTwins() && wordsFit();
        }

        private boolean hasTwins() {
            Arrays.fill(seen, (byte) 0);
            for (int i = 0; i < size; i++) {
                if (seen[symbols[i]] != 0) {
                    return true;
                }
                seen[symbols[i]] = 1;
            }
            return false;
        }

        private boolean wordsFit() {
            int next = 0;
            for (int length = 1; length <= LONGEST_WORD; length++) {
                int allOnes = (1 << length) - 1;
                next = 2 * next + counts[length];
                if (counts[length] > 0 && next > allOnes) {
                    return false;
                }
            }
            return true;
        }
    }

    /** Words, found by their symbols, and symbols, found by their words. */
    private static final class Table {
        // Of each symbol its word, with a 1 ahead of it, so that the length can be seen; 0 if it has none.
        final int[] wordsWithOne = new int[SYMBOLS];
        private final int[] symbols = new int[SYMBOLS];
        private final int[] firstWord = new int[LONGEST_WORD + 1];
        private final int[] firstIndex = new int[LONGEST_WORD + 2];
        // The words, filled up to 16 bits, are all numbers below this one.
        private int end;
        int size;

        void become(Draft draft) {
            Arrays.fill(wordsWithOne, 0);
            size = draft.size;
            System.arraycopy(draft.symbols, 0, symbols, 0, size);
            int next = 0;
            int index = 0;
            for (int length = 1; length <= LONGEST_WORD; length++) {
                next = 2 * next;
                firstWord[length] = next;
                firstIndex[length] = index;
                for (int i = 0; i < draft.counts[length] && index < size; i++) {
                    wordsWithOne[symbols[index]] = 1 << length | next;
                    next++;
                    index++;
                }
            }
            firstIndex[LONGEST_WORD + 1] = index;
            end = next;
        }

        /** Whether bits, none of whose beginnings is a word, begin one. */
        boolean hasLonger(int bits, int length) {
            return bits << (LONGEST_WORD - length) < end;
        }

        int symbolOf(int bits, int length) {
            if (length < 1 || length > LONGEST_WORD || bits < firstWord[length]) {
                return NONE;
            }
            int index = firstIndex[length] + bits - firstWord[length];
            return index < firstIndex[length + 1] ? symbols[index] : NONE;
        }
    }

    /** The data. */
    private static final class Store {
        // Grows with the longest data so far: most objects never need all 16384 bytes.
        byte[] bytes = new byte[COEFFICIENTS];
        int length;

        int byteAt(int k) {
            return k < 0 || k >= length ? NONE : bytes[k] & 255;
        }

        void reserve(int needed) {
            if (needed > bytes.length) {
                bytes = Arrays.copyOf(bytes, Math.max(needed, Math.min(2 * bytes.length, MOST_BYTES)));
            }
        }

        boolean append(long v, int n) {
            if (n < 1 || n > 8 || length + n > MOST_BYTES) {
                return false;
            }
            reserve(length + n);
            for (int k = n - 1; k >= 0; k--) {
                bytes[length] = (byte) (v >>> (8 * k));
                length++;
            }
            return true;
        }
    }

    /** Where an encoder sends what it writes. */
    private abstract static class Sink {
        abstract void putWord(int table, int symbol);

        abstract void putBits(long bits, int many);

        abstract void endByte();

        abstract void putRestart(int second);
    }

    /** Counts words, whether or not there are such. */
    private static final class Counter extends Sink {
        final int[] times = new int[TABLES * SYMBOLS];
        int total;

        void begin() {
            Arrays.fill(times, 0);
            total = 0;
        }

        void putWord(int table, int symbol) {
            times[table * SYMBOLS + symbol]++;
            total++;
        }

        void putBits(long bits, int many) {
        }

        void endByte() {
        }

        void putRestart(int second) {
        }
    }

    /** Makes bytes of words and bits; keeps them in the store only when it is known that they all can be. */
    private static final class BitWriter extends Sink {
        private final Table[] tables;
        private final Store store;
        private boolean keeps;
        private int part;
        private int filled;
        int length;
        boolean lacksWord;

        BitWriter(Table[] tables, Store store) {
            this.tables = tables;
            this.store = store;
        }

        void begin(boolean keeping) {
            keeps = keeping;
            part = 0;
            filled = 0;
            length = 0;
            lacksWord = false;
        }

        void putWord(int table, int symbol) {
            int word = tables[table].wordsWithOne[symbol];
            if (word == 0) {
                lacksWord = true;
            } else {
                putBits(word, sizeOf(word) - 1);
            }
        }

        void putBits(long bits, int many) {
            for (int i = many - 1; i >= 0; i--) {
                part = part << 1 | (int) (bits >>> i & 1);
                filled++;
                if (filled < 8) {
                    continue;
                }
                putByte(part);
                if (part == FULL_BYTE) {
                    putByte(0);
                }
                part = 0;
                filled = 0;
            }
        }

        private void putByte(int value) {
            if (keeps && length < store.bytes.length) {
                store.bytes[length] = (byte) value;
            }
            length++;
        }

        void endByte() {
            if (filled > 0) {
                putBits(FULL_BYTE, 8 - filled);
            }
        }

        void putRestart(int second) {
            putByte(FULL_BYTE);
            putByte(second);
        }
    }

    /** Goes over the blocks of the scan and sends their words and bits. */
    private static final class Encoder {
        private final Picture picture;
        private final Course course;
        private final int[] predictions = new int[MOST_COMPONENTS];
        // A block adds at most 63 bits to a run that has not been sent for having too many.
        private final byte[] runBits = new byte[MOST_HELD_BITS + COEFFICIENTS];
        private Sink sink;
        private int run;
        private int held;
        private int runTable;

        Encoder(Picture picture, Course course, Sink sink) {
            this.picture = picture;
            this.course = course;
            this.sink = sink;
        }

        void encode(Sink to) {
            sink = to;
            forget();
            for (int unit = 0; unit < course.units; unit++) {
                if (course.restartsAhead(unit)) {
                    endPart();
                    sink.putRestart(course.restartAhead(unit));
                    forget();
                }
                int from = unit * course.blocksOfUnit;
                for (int i = from; i < from + course.blocksOfUnit; i++) {
                    int c = course.owners[i];
                    int place = course.places[i];
                    runTable = course.otherTables[c];
                    switch (course.kind) {
                        case WHOLE:
                            sendDirect(c, place);
                            sendOthers(place, 1);
                            break;
                        case DIRECT:
                            sendDirect(c, place);
                            break;
                        case DIRECT_REFINEMENT:
                            sink.putBits(picture.coefficients[place] >> course.bits, 1);
                            break;
                        case BAND:
                            sendOthers(place, course.first);
                            break;
                        default:
                            refineOthers(place);
                            break;
                    }
                    if (run == MOST_RUN || held > MOST_HELD_BITS) {
                        sendRun();
                    }
                }
            }
            endPart();
        }

        private void forget() {
            Arrays.fill(predictions, 0);
            run = 0;
            held = 0;
        }

        private void endPart() {
            sendRun();
            sink.endByte();
        }

        private void sendDirect(int c, int place) {
            int v = picture.coefficients[place] >> course.bits;
            int d = v - predictions[c];
            predictions[c] = v;
            int size = sizeOf(d);
            sink.putWord(course.directTables[c], size);
            sink.putBits(d > 0 ? d : d - 1, size);
        }

        private void sendOthers(int place, int first) {
            int zeros = 0;
            for (int k = first; k <= course.last; k++) {
                int coefficient = picture.coefficients[place + k];
                int amount = Math.abs(coefficient) >> course.bits;
                if (amount == 0) {
                    zeros++;
                    continue;
                }
                sendRun();
                for (; zeros > 15; zeros -= 16) {
                    sink.putWord(runTable, SIXTEEN_ZEROS);
                }
                int size = sizeOf(amount);
                sink.putWord(runTable, 16 * zeros + size);
                sink.putBits(coefficient > 0 ? amount : -amount - 1, size);
                zeros = 0;
            }
            if (zeros > 0 && course.kind == WHOLE) {
                sink.putWord(runTable, 0);
            } else if (zeros > 0) {
                lengthenRun(0, 0);
            }
        }

        private void refineOthers(int place) {
            int lastNew = lastNewOne(place);
            int zeros = 0;
            long toCome = 0;
            int many = 0;
            for (int k = course.first; k <= course.last; k++) {
                int coefficient = picture.coefficients[place + k];
                int amount = Math.abs(coefficient) >> course.bits;
                if (amount == 0) {
                    zeros++;
                    continue;
                }
                for (; zeros > 15 && k <= lastNew; zeros -= 16) {
                    sendRun();
                    sink.putWord(runTable, SIXTEEN_ZEROS);
                    sink.putBits(toCome, many);
                    many = 0;
                }
                if (amount > 1) {
                    toCome = toCome << 1 | amount & 1;
                    many++;
                    continue;
                }
                sendRun();
                sink.putWord(runTable, 16 * zeros + 1);
                sink.putBits(coefficient < 0 ? 0 : 1, 1);
                sink.putBits(toCome, many);
                many = 0;
                zeros = 0;
            }
            if (zeros > 0 || many > 0) {
                lengthenRun(toCome, many);
            }
        }

        /** The last coefficient that this scan makes other than 0. */
        private int lastNewOne(int place) {
            for (int k = course.last; k >= course.first; k--) {
                if (Math.abs(picture.coefficients[place + k]) >> course.bits == 1) {
                    return k;
                }
            }
            return NONE;
        }

        private void lengthenRun(long bits, int many) {
            run++;
            for (int i = many - 1; i >= 0 && held < runBits.length; i--) {
                runBits[held] = (byte) (bits >>> i & 1);
                held++;
            }
        }

        private void sendRun() {
            if (run == 0) {
                return;
            }
            int n = sizeOf(run) - 1;
            sink.putWord(runTable, 16 * n);
            sink.putBits(run, n);
            for (int i = 0; i < held; i++) {
                sink.putBits(runBits[i], 1);
            }
            run = 0;
            held = 0;
        }
    }

    /** Takes bits and words from the store, up to the first fault. */
    private static final class BitReader {
        private final Store store;
        private int at;
        private int part;
        private int left;
        int fault;

        BitReader(Store store) {
            this.store = store;
        }

        void begin() {
            at = 0;
            part = 0;
            left = 0;
            fault = 0;
        }

        /** The next bits as a number, or NONE behind a fault. */
        int takeBits(int many) {
            int bits = 0;
            for (int i = 0; i < many; i++) {
                if (left == 0) {
                    openByte();
                }
                if (fault != 0) {
                    return NONE;
                }
                left--;
                bits = bits << 1 | part >> left & 1;
            }
            return bits;
        }

        private void openByte() {
            if (at >= store.length) {
                fault = BITS_END;
                return;
            }
            part = store.bytes[at] & 255;
            left = 8;
            at++;
            if (part < FULL_BYTE) {
                return;
            }
            int behind = at < store.length ? store.bytes[at] & 255 : NONE;
            if (behind >= FIRST_RESTART && behind <= LAST_RESTART) {
                fault = BITS_END;
            } else if (behind != 0) {
                fault = WRONG_BYTE;
            }
            at++;
        }

        int takeWord(Table table) {
            int bits = 0;
            for (int length = 0; length < LONGEST_WORD && table.hasLonger(bits, length); length++) {
                int bit = takeBits(1);
                if (bit == NONE) {
                    return NONE;
                }
                bits = bits << 1 | bit;
                int symbol = table.symbolOf(bits, length + 1);
                if (symbol != NONE) {
                    return symbol;
                }
            }
            fault = NO_WORD;
            return NONE;
        }

        /** The bits must be over but for 1s up to the end of the byte. */
        void endByte() {
            int ones = (1 << left) - 1;
            if ((part & ones) != ones) {
                fault = WRONG_END;
            }
            left = 0;
        }

        void takeRestart(int second) {
            if (store.byteAt(at) != FULL_BYTE || store.byteAt(at + 1) != second) {
                fault = WRONG_END;
            }
            at += 2;
        }

        void takeEnd() {
            if (at != store.length) {
                fault = WRONG_END;
            }
        }
    }

    /** Goes over the blocks of the scan and makes their coefficients of words and bits. */
    private static final class Decoder {
        private final Picture picture;
        private final Course course;
        private final Table[] tables;
        private final BitReader reader;
        private final int[] predictions = new int[MOST_COMPONENTS];
        private boolean keeps;
        private int run;

        Decoder(Picture picture, Course course, Table[] tables, BitReader reader) {
            this.picture = picture;
            this.course = course;
            this.tables = tables;
            this.reader = reader;
        }

        int decode(boolean keeping) {
            keeps = keeping;
            reader.begin();
            forget();
            for (int unit = 0; unit < course.units && reader.fault == 0; unit++) {
                if (course.restartsAhead(unit)) {
                    endPart();
                    if (reader.fault == 0) {
                        reader.takeRestart(course.restartAhead(unit));
                    }
                    forget();
                }
                int from = unit * course.blocksOfUnit;
                for (int i = from; i < from + course.blocksOfUnit && reader.fault == 0; i++) {
                    int c = course.owners[i];
                    int place = course.places[i];
                    Table others = tables[course.otherTables[c]];
                    switch (course.kind) {
                        case WHOLE:
                            takeDirect(c, place);
                            if (reader.fault == 0) {
                                takeOthers(others, place, 1);
                            }
                            break;
                        case DIRECT:
                            takeDirect(c, place);
                            break;
                        case DIRECT_REFINEMENT:
                            refineDirect(place);
                            break;
                        default:
                            takeOthers(others, place, course.first);
                            break;
                    }
                }
            }
            if (reader.fault == 0) {
                endPart();
            }
            if (reader.fault == 0) {
                reader.takeEnd();
            }
            return reader.fault;
        }

        private void forget() {
            Arrays.fill(predictions, 0);
            run = 0;
        }

        private void endPart() {
            if (run > 0) {
                reader.fault = WRONG_END;
            } else {
                reader.endByte();
            }
        }

        private void keep(int place, int value) {
            if (keeps) {
                picture.coefficients[place] = (short) value;
            }
        }

        private void takeDirect(int c, int place) {
            int size = reader.takeWord(tables[course.directTables[c]]);
            if (size == NONE) {
                return;
            }
            if (size > MOST_DIRECT_SIZE) {
                reader.fault = WRONG_SYMBOL;
                return;
            }
            int v = predictions[c] + takeNumber(size);
            if (reader.fault == 0) {
                predictions[c] = v;
                keepIfCanBe(place, 0, v * (1 << course.bits));
            }
        }

        /** A number of a size; what it is does not matter when there is a fault. */
        private int takeNumber(int size) {
            int bits = reader.takeBits(size);
            boolean above = size > 0 && bits >> (size - 1) == 1;
            return above ? bits : bits - (1 << size) + 1;
        }

        private void keepIfCanBe(int place, int k, int value) {
            if (Picture.canBe(k, value)) {
                keep(place + k, value);
            } else {
                reader.fault = WRONG_COEFFICIENT;
            }
        }

        private void refineDirect(int place) {
            int bit = reader.takeBits(1);
            if (bit == 1) {
                keep(place, picture.coefficients[place] | 1 << course.bits);
            }
        }

        private void takeOthers(Table table, int place, int first) {
            boolean refines = course.kind == BAND_REFINEMENT;
            if (!refines) {
                clearOthers(place, first);
            }
            int k = first;
            for (int words = 0; words < COEFFICIENTS && k <= course.last && run == 0; words++) {
                int symbol = reader.takeWord(table);
                if (symbol == NONE || symbol == 0 && course.kind == WHOLE) {
                    return;
                }
                if (endsBand(symbol)) {
                    takeRun(symbol >> 4);
                } else if (refines) {
                    k = takeNewOne(symbol, place, k);
                } else {
                    k = takeOther(symbol, place, k);
                }
                if (reader.fault != 0) {
                    return;
                }
            }
            if (run > 0) {
                run--;
                if (refines) {
                    refineRest(place, k);
                }
            }
        }

        private void clearOthers(int place, int first) {
            for (int k = first; k <= course.last; k++) {
                keep(place + k, 0);
            }
        }

        private boolean endsBand(int symbol) {
            return course.kind != WHOLE && (symbol & 15) == 0 && symbol != SIXTEEN_ZEROS;
        }

        private void takeRun(int n) {
            int bits = reader.takeBits(n);
            if (bits != NONE) {
                run = (1 << n) + bits;
            }
        }

        /** Answers the coefficient behind those that the symbol tells. */
        private int takeOther(int symbol, int place, int from) {
            int k = from + (symbol >> 4);
            int size = symbol & 15;
            if (size > MOST_OTHER_SIZE || size == 0 && symbol != SIXTEEN_ZEROS || k > course.last) {
                reader.fault = WRONG_SYMBOL;
                return k;
            }
            if (size > 0) {
                int v = takeNumber(size);
                if (reader.fault == 0) {
                    keepIfCanBe(place, k, v * (1 << course.bits));
                }
            }
            return k + 1;
        }

        /** Answers the coefficient behind the one that the symbol leads to. */
        private int takeNewOne(int symbol, int place, int from) {
            if ((symbol & 15) > 1) {
                reader.fault = WRONG_SYMBOL;
                return from;
            }
            int value = 0;
            if ((symbol & 15) == 1) {
                value = reader.takeBits(1) == 1 ? 1 << course.bits : -(1 << course.bits);
            }
            int zeros = symbol >> 4;
            for (int k = from; k <= course.last && reader.fault == 0; k++) {
                if (picture.coefficients[place + k] != 0) {
                    refineOther(place + k);
                } else if (zeros == 0) {
                    keep(place + k, value);
                    return k + 1;
                } else {
                    zeros--;
                }
            }
            if (reader.fault == 0) {
                reader.fault = WRONG_SYMBOL;
            }
            return from;
        }

        private void refineRest(int place, int from) {
            for (int k = from; k <= course.last && reader.fault == 0; k++) {
                if (picture.coefficients[place + k] != 0) {
                    refineOther(place + k);
                }
            }
        }

        private void refineOther(int place) {
            int bit = reader.takeBits(1);
            int coefficient = picture.coefficients[place];
            int more = 1 << course.bits;
            if (bit == 1 && (Math.abs(coefficient) & more) == 0) {
                keep(place, coefficient > 0 ? coefficient + more : coefficient - more);
            }
        }
    }
}
