import java.util.Arrays;

/**
 * Pictures by cosines: bytes are collected and read as a picture, or a canvas is written as bytes.
 * The document (DOC.md) tells what each call answers; the words here are its words.
 */
public final class DctFilter {
    private static final int MOST_BYTES = 2000;
    private static final int CANVAS_SIDE = 32;
    private static final int TABLES = 4;
    private static final int FIRST_NUMBER = 16;

    /** Coefficient i stands at 8 v + u. */
    private static final int[] ZIGZAG = {
        0, 1, 8, 16, 9, 2, 3, 10, 17, 24, 32, 25, 18, 11, 4, 5,
        12, 19, 26, 33, 40, 48, 41, 34, 27, 20, 13, 6, 7, 14, 21, 28,
        35, 42, 49, 56, 57, 50, 43, 36, 29, 22, 15, 23, 30, 37, 44, 51,
        58, 59, 52, 45, 38, 31, 39, 46, 53, 60, 61, 54, 47, 55, 62, 63};

    /** T(0) .. T(31). */
    private static final int[] WAVE = {
        4096, 4017, 3784, 3406, 2896, 2276, 1567, 799,
        0, -799, -1567, -2276, -2896, -3406, -3784, -4017,
        -4096, -4017, -3784, -3406, -2896, -2276, -1567, -799,
        0, 799, 1567, 2276, 2896, 3406, 3784, 4017};

    private final Collected collected = new Collected();
    private final int[] tables = new int[TABLES * 64];
    private final Picture picture = new Picture();
    private final Draft draft = new Draft();
    private final Sink written = new Sink();
    private Reader reader;
    private Writer writer;

    public DctFilter() {
        Arrays.fill(tables, FIRST_NUMBER);
    }

    public void add(byte b) throws UnsupportedOperationException {
        if (collected.size >= MOST_BYTES) {
            throw new UnsupportedOperationException("there are 2,000 bytes");
        }
        collected.append(b);
    }

    public int read() {
        // Made late: an object that never reads needs no codes.
        if (reader == null) {
            reader = new Reader(collected, picture);
        }
        int answer = reader.readPicture(tables);
        collected.size = 0;
        return answer;
    }

    public int sample(int x, int y, int band) throws IndexOutOfBoundsException {
        boolean known = band >= 0 && (band < picture.count || band >= 3 && band <= 5);
        if (!known || x < 0 || x >= picture.width || y < 0 || y >= picture.height) {
            throw new IndexOutOfBoundsException("no such sample");
        }
        if (band < picture.count) {
            return picture.sampleAt(band, x, y);
        }
        int a = picture.sampleAt(0, x, y);
        if (picture.count < 3) {
            return a;
        }
        int b = picture.sampleAt(1, x, y) - 128;
        int c = picture.sampleAt(2, x, y) - 128;
        return colour(band, a, b, c);
    }

    private static int colour(int band, int a, int b, int c) {
        if (band == 3) {
            return asByte(a + ((91881 * c + 32768) >> 16));
        }
        if (band == 4) {
            return asByte(a - ((22554 * b + 46802 * c + 32768) >> 16));
        }
        return asByte(a + ((116130 * b + 32768) >> 16));
    }

    public int coefficient(int block, int i) throws ArrayIndexOutOfBoundsException {
        if (block < 0 || block >= picture.blocks || i < 0 || i > 63) {
            throw new ArrayIndexOutOfBoundsException("no such coefficient");
        }
        return picture.coefficients[block * 64 + i];
    }

    public long exact(int block, int i) throws ArrayIndexOutOfBoundsException {
        if (block < 0 || block >= picture.blocks || i < 0 || i > 63) {
            throw new ArrayIndexOutOfBoundsException("no such point");
        }
        return picture.exactAt(block, i & 7, i >> 3);
    }

    public int told(int i, int what) throws IndexOutOfBoundsException {
        int most = i < 0 ? 6 : 3;
        if (i < -1 || i >= picture.blocks || what < 0 || what > most) {
            throw new IndexOutOfBoundsException("nothing is told of that");
        }
        if (i < 0) {
            return what == 6 ? written.count : picture.toldOfAll(what);
        }
        return picture.toldOfBlock(i, what);
    }

    public int table(int kind, int i, int v) throws IndexOutOfBoundsException, IllegalArgumentException {
        if (kind < 0 || kind >= TABLES || i < 0 || i > 63) {
            throw new IndexOutOfBoundsException("no such number of a table");
        }
        if (v != -1 && (v < 1 || v > 255)) {
            throw new IllegalArgumentException("a number is 1 .. 255, or -1");
        }
        int old = tables[kind * 64 + i];
        if (v != -1) {
            tables[kind * 64 + i] = v;
        }
        return old;
    }

    public int point(int x, int y, int v) throws IndexOutOfBoundsException, IllegalArgumentException {
        if (x < 0 || x >= CANVAS_SIDE || y < 0 || y >= CANVAS_SIDE) {
            throw new IndexOutOfBoundsException("no such point of the canvas");
        }
        if (v < 0 || v > 255) {
            throw new IllegalArgumentException("a point is 0 .. 255");
        }
        return draft.putPoint(x, y, v);
    }

    public int scan(int from, int to, int bit) {
        return draft.tellScan(from, to, bit);
    }

    public int restart(int n) throws IllegalArgumentException {
        if (n < 0 || n > 100) {
            throw new IllegalArgumentException("an interval is 0 .. 100");
        }
        int old = draft.interval;
        draft.interval = n;
        return old;
    }

    public int encode(int quality) throws IllegalArgumentException, IllegalStateException {
        if (quality < 1 || quality > 100) {
            throw new IllegalArgumentException("a quality is 1 .. 100");
        }
        if (draft.width < 1) {
            throw new IllegalStateException("no point was put");
        }
        if (writer == null) {
            writer = new Writer(written);
        }
        writer.makeTable(tables, quality);
        writer.transformCanvas(draft);
        writer.putHead(draft);
        if (draft.scans == 0) {
            writer.putScan(0, 63, 0, 0);
        }
        for (int i = 0; i < draft.scans; i++) {
            writer.putScan(draft.froms[i], draft.tos[i], draft.highs[i], draft.lows[i]);
        }
        writer.putEnd();
        draft.forgetScans();
        return written.count;
    }

    public byte octet(int i) throws ArrayIndexOutOfBoundsException {
        if (i < 0 || i >= written.count) {
            throw new ArrayIndexOutOfBoundsException("no such byte was written");
        }
        return written.bytes[i];
    }

    public int take() {
        int count = Math.min(written.count, MOST_BYTES);
        System.arraycopy(written.bytes, 0, collected.bytes, 0, count);
        collected.size = count;
        return count;
    }

    /** C(u, x). */
    private static int cosine(int u, int x) {
        return u == 0 ? 2896 : WAVE[(2 * x + 1) * u & 31];
    }

    private static int asByte(int value) {
        return Math.max(0, Math.min(255, value));
    }

    private static int upward(int value, int divisor) {
        return divisor < 1 ? 0 : (value + divisor - 1) / divisor;
    }

    /** The bytes that wait to be read. */
    private static final class Collected {
        final byte[] bytes = new byte[MOST_BYTES];
        int size;

        void append(byte b) {
            if (size < bytes.length) {
                bytes[size] = b;
                size++;
            }
        }

        /** -1 where there is none. */
        int byteAt(int place) {
            return place < 0 || place >= size ? -1 : bytes[place] & 255;
        }

        /** Two bytes, the higher one first; -1 when not both are there. */
        int twoAt(int place) {
            int higher = byteAt(place);
            int lower = byteAt(place + 1);
            return higher < 0 || lower < 0 ? -1 : 256 * higher + lower;
        }

        /** Where the m of a marker that begins at a place is: behind all its bytes 255; the size when bytes end. */
        int markerAt(int from) {
            int place = from;
            while (place < size && byteAt(place) == 255) {
                place++;
            }
            return place;
        }
    }

    /** A band of the picture, and what the scan that is read needs of it. */
    private static final class Band {
        int name;
        int h = 1;
        int v = 1;
        int table;
        int columns;
        int rows;
        int neededColumns;
        int neededRows;
        int firstBlock;
        int firstCodes;
        int otherCodes;
        int before;
    }

    /** What was read last; there is none when count is 0. */
    private static final class Picture {
        final Band[] bands = {new Band(), new Band(), new Band()};
        final int[] tables = new int[TABLES * 64];
        int[] coefficients = new int[0];
        int[] damaged = new int[0];
        boolean byAndBy;
        int width;
        int height;
        int count;
        int blocks;
        int scans;
        int greatestH = 1;
        int greatestV = 1;
        int unitColumns;
        int unitRows;

        void forget() {
            width = 0;
            height = 0;
            count = 0;
            blocks = 0;
            scans = 0;
        }

        /** The bands' names, h, v and tables stand already. */
        void begin(int newWidth, int newHeight, int newCount) {
            width = newWidth;
            height = newHeight;
            count = newCount;
            greatestH = 1;
            greatestV = 1;
            for (int i = 0; i < count; i++) {
                greatestH = Math.max(greatestH, bands[i].h);
                greatestV = Math.max(greatestV, bands[i].v);
            }
            unitColumns = upward(width, 8 * greatestH);
            unitRows = upward(height, 8 * greatestV);
            blocks = 0;
            for (int i = 0; i < count; i++) {
                placeBand(bands[i]);
            }
            clearBlocks();
        }

        private void placeBand(Band band) {
            band.columns = unitColumns * band.h;
            band.rows = unitRows * band.v;
            band.neededColumns = upward(upward(width * band.h, greatestH), 8);
            band.neededRows = upward(upward(height * band.v, greatestV), 8);
            band.firstBlock = blocks;
            blocks += band.columns * band.rows;
        }

        private void clearBlocks() {
            if (damaged.length < blocks) {
                damaged = new int[blocks];
                coefficients = new int[blocks * 64];
            } else {
                Arrays.fill(damaged, 0);
                Arrays.fill(coefficients, 0);
            }
        }

        int bandOf(int block) {
            int band = 0;
            for (int i = 1; i < count; i++) {
                if (block >= bands[i].firstBlock) {
                    band = i;
                }
            }
            return band;
        }

        long exactAt(int block, int x, int y) {
            int firstNumber = bands[bandOf(block)].table * 64;
            long sum = 0;
            for (int i = 0; i < 64; i++) {
                long weight = (long) cosine(ZIGZAG[i] & 7, x) * cosine(ZIGZAG[i] >> 3, y);
                sum += weight * coefficients[block * 64 + i] * tables[firstNumber + i];
            }
            return sum;
        }

        /** The point must be in the picture. */
        int sampleAt(int number, int x, int y) {
            Band band = bands[number];
            int column = x * band.h / greatestH;
            int row = y * band.v / greatestV;
            int block = band.firstBlock + (row >> 3) * band.columns + (column >> 3);
            long moved = (exactAt(block, column & 7, row & 7) + (1L << 25)) >> 26;
            return (int) Math.max(0L, Math.min(255L, moved + 128));
        }

        int toldOfAll(int what) {
            switch (what) {
                case 0: return width;
                case 1: return height;
                case 2: return count;
                case 3: return blocks;
                case 4: return scans;
                default: return countDamaged();
            }
        }

        private int countDamaged() {
            int sum = 0;
            for (int i = 0; i < blocks; i++) {
                sum += damaged[i];
            }
            return sum;
        }

        int toldOfBlock(int block, int what) {
            int number = bandOf(block);
            Band band = bands[number];
            int within = block - band.firstBlock;
            int columns = Math.max(1, band.columns);
            switch (what) {
                case 0: return number;
                case 1: return within % columns;
                case 2: return within / columns;
                default: return damaged[block];
            }
        }
    }

    /** Codes of one class and number, for reading. */
    private static final class Codes {
        final int[] counts = new int[17];
        final int[] symbols = new int[256];

        /** All have 8 bits; the one of bits 1 alone is none. */
        void beginAnew() {
            Arrays.fill(counts, 0);
            counts[8] = 255;
            for (int i = 0; i < 255; i++) {
                symbols[i] = i;
            }
        }
    }

    /** The bits of a scan's data. What is not there is -1. */
    private static final class Bits {
        final Collected source;
        int place;
        private int current;
        private int left;

        Bits(Collected source) {
            this.source = source;
        }

        /** What is left of a byte is passed. */
        void beginAt(int newPlace) {
            place = Math.max(0, newPlace);
            left = 0;
        }

        int nextBit() {
            if (left == 0) {
                if (place >= source.size) {
                    return -1;
                }
                current = source.bytes[place] & 255;
                boolean full = current == 255;
                if (full && (place + 1 >= source.size || source.bytes[place + 1] != 0)) {
                    return -1;
                }
                place += full ? 2 : 1;
                left = 8;
            }
            left--;
            return current >> left & 1;
        }

        int nextNumber(int bits) {
            int number = 0;
            for (int i = 0; i < bits; i++) {
                int bit = nextBit();
                if (bit < 0) {
                    return -1;
                }
                number = 2 * number + bit;
            }
            return number;
        }

        int nextSymbol(Codes codes) {
            int code = 0;
            int first = 0;
            int index = 0;
            for (int bits = 1; bits <= 16; bits++) {
                int bit = nextBit();
                if (bit < 0) {
                    return -1;
                }
                code = 2 * code + bit;
                first = 2 * first;
                int count = codes.counts[bits];
                if (code - first < count) {
                    return codes.symbols[index + code - first & 255];
                }
                index += count;
                first += count;
            }
            return -1;
        }

        /** The first byte 255 from the place on that no byte 0 follows; -1 without one. */
        int nextMarker() {
            for (int i = place; i + 1 < source.size; i++) {
                if (source.byteAt(i) == 255 && source.byteAt(i + 1) > 0) {
                    return i;
                }
            }
            return -1;
        }
    }

    /** Markers and what their lengths say; the scans' data are read by a ScanReader. */
    private static final class Reader {
        // What a step answers; a fault's place is 0 or more.
        private static final int MORE = -1;
        private static final int DONE = -2;
        private static final int DATA = -3;

        private final Collected source;
        private final Picture picture;
        private final ScanReader scans;
        private int place;

        Reader(Collected source, Picture picture) {
            this.source = source;
            this.picture = picture;
            this.scans = new ScanReader(source, picture);
        }

        int readPicture(int[] firstTables) {
            picture.forget();
            System.arraycopy(firstTables, 0, picture.tables, 0, picture.tables.length);
            scans.beginAnew();
            int step = source.twoAt(0) == 256 * 255 + 216 ? MORE : 0;
            place = 2;
            // Each turn passes two bytes at least.
            for (int turns = 0; turns < MOST_BYTES && step == MORE; turns++) {
                step = readMarker();
                if (step == DATA) {
                    scans.readUnits(place);
                    place = placeBehindScan(scans.bits.place);
                    step = MORE;
                }
            }
            if (step == DONE) {
                return picture.height;
            }
            picture.forget();
            return -1 - Math.max(0, step);
        }

        private int placeBehindScan(int from) {
            for (int i = from; i + 1 < source.size; i++) {
                int next = source.byteAt(i + 1);
                boolean within = next == 0 || isRestart(next);
                if (source.byteAt(i) == 255 && !within) {
                    return i;
                }
            }
            return source.size;
        }

        private static boolean isRestart(int marker) {
            return marker >= 208 && marker <= 215;
        }

        private int readMarker() {
            if (source.byteAt(place) != 255) {
                return place;
            }
            int m = source.markerAt(place);
            if (m >= source.size) {
                return source.size;
            }
            int marker = source.byteAt(m);
            place = m + 1;
            if (marker == 217) {
                return DONE;
            }
            if (marker == 1 || isRestart(marker)) {
                return MORE;
            }
            return isRefused(marker) ? m : readSegment(marker, m + 1);
        }

        private boolean isRefused(int marker) {
            switch (marker) {
                case 0: case 216:
                case 193: case 195: case 197: case 198: case 199:
                case 201: case 202: case 203: case 205: case 206: case 207:
                    return true;
                case 192: case 194:
                    return picture.count > 0;
                case 218:
                    return picture.count == 0;
                default:
                    return false;
            }
        }

        private int readSegment(int marker, int at) {
            int length = source.twoAt(at);
            if (length < 2 || at + length > source.size) {
                return at;
            }
            place = at + length;
            switch (marker) {
                case 219: return readTables(at + 2, place);
                case 196: return readCodes(at + 2, place);
                case 221: return readInterval(at, length);
                case 192: case 194: return readFrame(marker, at, length);
                case 218: return readScanHead(at, length);
                default: return MORE;
            }
        }

        private int readTables(int from, int end) {
            for (int entry = from; entry < end; entry += 65) {
                int number = source.byteAt(entry);
                if (number < 0 || number >= TABLES || entry + 65 > end) {
                    return entry;
                }
                for (int i = 0; i < 64; i++) {
                    int value = source.byteAt(entry + 1 + i);
                    if (value < 1) {
                        return entry;
                    }
                    picture.tables[number * 64 + i] = value;
                }
            }
            return MORE;
        }

        private int readCodes(int from, int end) {
            int entry = from;
            while (entry < end) {
                int symbols = countSymbols(entry, end);
                if (symbols < 0) {
                    return entry;
                }
                int kind = source.byteAt(entry);
                Codes codes = scans.codesOf(kind >> 4, kind & 15);
                for (int i = 1; i <= 16; i++) {
                    codes.counts[i] = source.byteAt(entry + i);
                }
                for (int i = 0; i < symbols; i++) {
                    codes.symbols[i] = source.byteAt(entry + 17 + i);
                }
                entry += 17 + symbols;
            }
            return MORE;
        }

        /** How many symbols the codes told at entry have; -1 when they can't be. */
        private int countSymbols(int entry, int end) {
            int kind = source.byteAt(entry);
            if (kind < 0 || kind >> 4 > 1 || (kind & 15) > 3 || entry + 17 > end) {
                return -1;
            }
            int symbols = 0;
            int next = 0;
            for (int bits = 1; bits <= 16; bits++) {
                int count = source.byteAt(entry + bits);
                next = 2 * next + count;
                symbols += count;
                if (next > 1 << bits) {
                    return -1;
                }
            }
            return symbols > 256 || entry + 17 + symbols > end ? -1 : symbols;
        }

        private int readInterval(int at, int length) {
            if (length != 4) {
                return at;
            }
            scans.interval = source.twoAt(at + 2);
            return MORE;
        }

        private int readFrame(int marker, int at, int length) {
            int count = source.byteAt(at + 7);
            boolean possible = count == 1 || count == 3;
            if (length < 8 || possible && length != 8 + 3 * count) {
                return at;
            }
            if (source.byteAt(at + 2) != 8) {
                return at + 2;
            }
            int height = source.twoAt(at + 3);
            if (height == 0) {
                height = heightBehind(at + 5);
            }
            if (height < 1 || height > 64) {
                return at + 3;
            }
            int width = source.twoAt(at + 5);
            if (width < 1 || width > 64) {
                return at + 5;
            }
            if (!possible) {
                return at + 7;
            }
            for (int i = 0; i < count; i++) {
                int step = readBand(i, at + 8 + 3 * i);
                if (step != MORE) {
                    return step;
                }
            }
            picture.byAndBy = marker == 194;
            picture.begin(width, height, count);
            return MORE;
        }

        /** A height that the first marker 220 of length 4 tells, wherever its bytes are; 0 without one. */
        private int heightBehind(int from) {
            for (int i = from; i + 6 <= source.size; i++) {
                if (source.twoAt(i) == 256 * 255 + 220 && source.twoAt(i + 2) == 4) {
                    return source.twoAt(i + 4);
                }
            }
            return 0;
        }

        private int readBand(int number, int at) {
            Band band = picture.bands[number];
            band.name = source.byteAt(at);
            for (int i = 0; i < number; i++) {
                if (picture.bands[i].name == band.name) {
                    return at;
                }
            }
            band.h = source.byteAt(at + 1) >> 4;
            band.v = source.byteAt(at + 1) & 15;
            if (band.h < 1 || band.h > 2 || band.v < 1 || band.v > 2) {
                return at + 1;
            }
            band.table = source.byteAt(at + 2);
            return band.table < 0 || band.table >= TABLES ? at + 2 : MORE;
        }

        private int readScanHead(int at, int length) {
            int count = source.byteAt(at + 2);
            boolean possible = count == 1 || count == picture.count;
            if (length < 6 || possible && length != 6 + 2 * count) {
                return at;
            }
            if (!possible) {
                return at + 2;
            }
            for (int i = 0; i < count; i++) {
                int step = readChoice(i, count, at + 3 + 2 * i);
                if (step != MORE) {
                    return step;
                }
            }
            int last = at + 3 + 2 * count;
            scans.from = source.byteAt(last);
            scans.to = source.byteAt(last + 1);
            scans.high = source.byteAt(last + 2) >> 4;
            scans.low = source.byteAt(last + 2) & 15;
            if (!scans.isRangeGood()) {
                return last;
            }
            picture.scans++;
            return DATA;
        }

        private int readChoice(int i, int count, int at) {
            int name = source.byteAt(at);
            int chosen = -1;
            for (int band = 0; band < picture.count; band++) {
                boolean inOrder = count == 1 || band == i;
                if (inOrder && picture.bands[band].name == name) {
                    chosen = band;
                }
            }
            if (chosen < 0) {
                return at;
            }
            int numbers = source.byteAt(at + 1);
            if (numbers < 0 || numbers >> 4 > 3 || (numbers & 15) > 3) {
                return at + 1;
            }
            scans.chooseBand(chosen, count, numbers);
            return MORE;
        }
    }

    /** The data of a scan, unit by unit. */
    private static final class ScanReader {
        final Bits bits;
        int interval;
        int from;
        int to;
        int high;
        int low;
        private final Codes[] codes = new Codes[8];
        private final Picture picture;
        private final int[] unitBands = new int[12];
        private final int[] unitBlocks = new int[12];
        private int unitSize;
        private boolean single;
        private int singleBand;
        // The unit whose marker was found already, when the scan went on there.
        private int markedUnit;
        // How many blocks more end before their first coefficient of this scan.
        private int ending;

        ScanReader(Collected source, Picture picture) {
            this.picture = picture;
            this.bits = new Bits(source);
            for (int i = 0; i < codes.length; i++) {
                codes[i] = new Codes();
            }
        }

        void beginAnew() {
            interval = 0;
            for (int i = 0; i < codes.length; i++) {
                codes[i].beginAnew();
            }
        }

        Codes codesOf(int kind, int number) {
            return codes[(4 * kind + number) & 7];
        }

        void chooseBand(int band, int count, int numbers) {
            single = count == 1;
            singleBand = band;
            picture.bands[band].firstCodes = numbers >> 4;
            picture.bands[band].otherCodes = numbers & 15;
        }

        boolean isRangeGood() {
            if (!picture.byAndBy) {
                return from == 0 && to == 63 && high == 0 && low == 0;
            }
            boolean first = from == 0 && to == 0;
            boolean others = from >= 1 && from <= to && to <= 63 && single;
            return (first || others) && low <= 13 && (high == 0 || high == low + 1);
        }

        void readUnits(int place) {
            bits.beginAt(place);
            markedUnit = 0;
            beginInterval();
            int units = countUnits();
            int unit = 0;
            // Each turn passes a unit at least.
            for (int turns = 0; turns < units && unit < units; turns++) {
                if (isMarkerGood(unit) && isUnitRead(unit)) {
                    unit++;
                } else {
                    unit = passDamaged(unit, units);
                }
            }
        }

        private int countUnits() {
            if (single) {
                Band band = picture.bands[singleBand];
                return band.neededColumns * band.neededRows;
            }
            return picture.unitColumns * picture.unitRows;
        }

        private void beginInterval() {
            ending = 0;
            for (int i = 0; i < picture.bands.length; i++) {
                picture.bands[i].before = 0;
            }
        }

        private boolean isMarkerGood(int unit) {
            if (interval < 1 || unit == markedUnit || unit % interval != 0) {
                return true;
            }
            int due = 208 + (unit / interval - 1) % 8;
            int m = bits.source.markerAt(bits.place);
            if (m == bits.place || bits.source.byteAt(m) != due) {
                return false;
            }
            bits.beginAt(m + 1);
            beginInterval();
            return true;
        }

        private boolean isUnitRead(int unit) {
            listBlocks(unit);
            for (int i = 0; i < unitSize; i++) {
                if (!isBlockRead(picture.bands[unitBands[i]], unitBlocks[i] * 64)) {
                    return false;
                }
            }
            return true;
        }

        private void listBlocks(int unit) {
            unitSize = 0;
            if (single) {
                Band band = picture.bands[singleBand];
                int columns = Math.max(1, band.neededColumns);
                listBlock(singleBand, unit % columns, unit / columns);
                return;
            }
            int columns = Math.max(1, picture.unitColumns);
            for (int number = 0; number < picture.count; number++) {
                Band band = picture.bands[number];
                for (int i = 0; i < band.h * band.v; i++) {
                    int column = unit % columns * band.h + i % band.h;
                    listBlock(number, column, unit / columns * band.v + i / band.h);
                }
            }
        }

        private void listBlock(int number, int column, int row) {
            Band band = picture.bands[number];
            if (unitSize < unitBlocks.length) {
                unitBands[unitSize] = number;
                unitBlocks[unitSize] = band.firstBlock + row * band.columns + column;
                unitSize++;
            }
        }

        /** All units from this one up to where the scan goes on are damaged. */
        private int passDamaged(int unit, int units) {
            int next = unitBehindDamage(unit, units);
            for (int i = unit; i < next; i++) {
                listBlocks(i);
                for (int j = 0; j < unitSize; j++) {
                    picture.damaged[unitBlocks[j]] = 1;
                }
            }
            return next;
        }

        private int unitBehindDamage(int unit, int units) {
            int marker = bits.nextMarker();
            int number = bits.source.byteAt(marker + 1) - 208;
            if (marker < 0 || number < 0 || number > 7 || interval < 1) {
                return units;
            }
            for (int i = unit / interval + 1; i * interval < units; i++) {
                if ((i - 1) % 8 == number) {
                    bits.beginAt(marker + 2);
                    beginInterval();
                    markedUnit = i * interval;
                    return markedUnit;
                }
            }
            return units;
        }

        private boolean isBlockRead(Band band, int base) {
            if (from == 0 && high > 0) {
                int bit = bits.nextBit();
                if (bit > 0) {
                    picture.coefficients[base] |= 1 << low;
                }
                return bit >= 0;
            }
            if (from == 0 && !isFirstRead(band, base)) {
                return false;
            }
            if (to == 0) {
                return true;
            }
            Codes others = codesOf(1, band.otherCodes);
            return high > 0 ? areOthersRefined(others, base) : areOthersRead(others, base);
        }

        private boolean isFirstRead(Band band, int base) {
            int s = bits.nextSymbol(codesOf(0, band.firstCodes));
            if (s < 0 || s > 11) {
                return false;
            }
            int told = bits.nextNumber(s);
            if (told < 0) {
                return false;
            }
            band.before += signed(told, s);
            picture.coefficients[base] = band.before << low;
            return true;
        }

        private static int signed(int told, int s) {
            return s > 0 && told < 1 << (s - 1) ? told - (1 << s) + 1 : told;
        }

        private boolean areOthersRead(Codes others, int base) {
            if (ending > 0) {
                ending--;
                return true;
            }
            for (int k = Math.max(1, from); k <= to; k++) {
                int symbol = bits.nextSymbol(others);
                int r = symbol >> 4;
                int s = symbol & 15;
                if (symbol < 0 || s > 10) {
                    return false;
                }
                if (s == 0 && r < 15) {
                    int more = picture.byAndBy ? bits.nextNumber(r) : 0;
                    ending = picture.byAndBy && more >= 0 ? (1 << r) + more - 1 : 0;
                    return more >= 0;
                }
                k += r;
                if (s > 0) {
                    int told = k > to ? -1 : bits.nextNumber(s);
                    if (told < 0) {
                        return false;
                    }
                    picture.coefficients[base + k] = signed(told, s) << low;
                }
            }
            return true;
        }

        private boolean areOthersRefined(Codes others, int base) {
            int k = from;
            // Each turn passes a coefficient at least, or is the last one.
            for (int turns = 0; turns < 64 && k <= to && ending == 0; turns++) {
                int symbol = bits.nextSymbol(others);
                int r = symbol >> 4;
                int s = symbol & 15;
                if (symbol < 0 || s > 1) {
                    return false;
                }
                boolean ends = s == 0 && r < 15;
                int told = bits.nextNumber(ends ? r : s);
                if (told < 0) {
                    return false;
                }
                if (ends) {
                    ending = (1 << r) + told;
                } else {
                    k = passZeros(base, k, r);
                    if (k < 0 || s > 0 && k > to) {
                        return false;
                    }
                    if (s > 0) {
                        picture.coefficients[base + k] = told > 0 ? 1 << low : -(1 << low);
                    }
                    k++;
                }
            }
            if (ending > 0) {
                ending--;
                return passZeros(base, k, 64) >= 0;
            }
            return true;
        }

        /** Where the zero behind so many zeros is, or to + 1; those that are not 0 get their bits. -1: bits end. */
        private int passZeros(int base, int begin, int zeros) {
            int left = zeros;
            for (int k = begin; k <= to; k++) {
                int old = picture.coefficients[base + k];
                if (old == 0 && left == 0) {
                    return k;
                }
                if (old == 0) {
                    left--;
                    continue;
                }
                int bit = bits.nextBit();
                if (bit < 0) {
                    return -1;
                }
                if (bit > 0 && (old & 1 << low) == 0) {
                    picture.coefficients[base + k] = old > 0 ? old + (1 << low) : old - (1 << low);
                }
            }
            return to + 1;
        }
    }

    /** What is to be written: the canvas, the scans that are told, the interval. */
    private static final class Draft {
        private static final int MOST_SCANS = 10;

        final int[] points = new int[CANVAS_SIDE * CANVAS_SIDE];
        int width;
        int height;
        int interval;
        final int[] froms = new int[MOST_SCANS];
        final int[] tos = new int[MOST_SCANS];
        final int[] highs = new int[MOST_SCANS];
        final int[] lows = new int[MOST_SCANS];
        int scans;
        // The lowest bit that is told yet of each coefficient; -1: none.
        private final int[] lowest = new int[64];

        Draft() {
            Arrays.fill(lowest, -1);
        }

        int putPoint(int x, int y, int v) {
            int old = points[y * CANVAS_SIDE + x];
            points[y * CANVAS_SIDE + x] = v;
            width = Math.max(width, x + 1);
            height = Math.max(height, y + 1);
            return old;
        }

        /** Blocks are filled up by the last column and row. */
        int filledPoint(int x, int y) {
            int row = Math.max(0, Math.min(y, height - 1));
            int column = Math.max(0, Math.min(x, width - 1));
            return points[row * CANVAS_SIDE + column];
        }

        void forgetScans() {
            scans = 0;
            Arrays.fill(lowest, -1);
        }

        int tellScan(int from, int to, int bit) {
            boolean first = from == 0 && to == 0;
            boolean others = from >= 1 && from <= to && to <= 63 && lowest[0] >= 0;
            if (!first && !others || bit < 0 || bit > 3 || scans >= MOST_SCANS) {
                return 0;
            }
            int before = lowest[from];
            if (before != -1 && before != bit + 1) {
                return 0;
            }
            for (int i = from; i <= to; i++) {
                if (lowest[i] != before) {
                    return 0;
                }
            }
            Arrays.fill(lowest, from, to + 1, bit);
            froms[scans] = from;
            tos[scans] = to;
            highs[scans] = Math.max(0, before);
            lows[scans] = bit;
            scans++;
            return scans;
        }
    }

    /** The bytes that are written. */
    private static final class Sink {
        byte[] bytes = new byte[1024];
        int count;
        private int current;
        private int held;

        void forget() {
            count = 0;
            current = 0;
            held = 0;
        }

        void putByte(int value) {
            if (count >= bytes.length) {
                bytes = Arrays.copyOf(bytes, 2 * count);
            }
            bytes[count] = (byte) value;
            count++;
        }

        void putTwo(int value) {
            putByte(value >> 8);
            putByte(value);
        }

        void putMarker(int marker) {
            putByte(255);
            putByte(marker);
        }

        void putBits(int value, int bits) {
            for (int i = bits - 1; i >= 0; i--) {
                current = 2 * current + (value >> i & 1);
                held++;
                if (held == 8) {
                    putByte(current);
                    if (current == 255) {
                        putByte(0);
                    }
                    current = 0;
                    held = 0;
                }
            }
        }

        void fillByte() {
            if (held > 0) {
                putBits(255, 8 - held);
            }
        }
    }

    /** Codes that suit what is written. */
    private static final class Suited {
        private static final int EXTRA = 256;

        final int[] counts = new int[17];
        final int[] order = new int[256];
        final int[] codes = new int[257];
        final int[] lengths = new int[257];
        int told;
        // How often the symbols of a group come, at its greatest symbol; 0 at the others.
        private final int[] weights = new int[257];
        private final int[] groups = new int[257];
        private final int[] used = new int[257];
        private int usedCount;

        void forget() {
            Arrays.fill(weights, 0);
            weights[EXTRA] = 1;
        }

        void countSymbol(int symbol) {
            if (symbol >= 0 && symbol < EXTRA) {
                weights[symbol]++;
            }
        }

        void suit() {
            usedCount = 0;
            for (int symbol = 0; symbol <= EXTRA; symbol++) {
                lengths[symbol] = 0;
                groups[symbol] = symbol;
                if (weights[symbol] > 0) {
                    used[usedCount] = symbol;
                    usedCount++;
                }
            }
            for (int joined = 1; joined < usedCount; joined++) {
                int one = leastGroup(-1);
                joinGroups(one, leastGroup(one));
            }
            orderCodes();
        }

        private int leastGroup(int except) {
            int least = -1;
            for (int i = 0; i < usedCount; i++) {
                int group = used[i];
                boolean there = weights[group] > 0 && group != except;
                if (there && (least < 0 || weights[group] <= weights[least])) {
                    least = group;
                }
            }
            return Math.max(0, least);
        }

        private void joinGroups(int one, int other) {
            int greater = Math.max(one, other);
            int sum = weights[one] + weights[other];
            weights[one] = 0;
            weights[other] = 0;
            weights[greater] = sum;
            for (int i = 0; i < usedCount; i++) {
                int symbol = used[i];
                if (groups[symbol] == one || groups[symbol] == other) {
                    groups[symbol] = greater;
                    lengths[symbol]++;
                }
            }
        }

        private void orderCodes() {
            told = 0;
            int next = 0;
            for (int length = 1; length <= 16; length++) {
                counts[length] = 0;
                for (int i = 0; i < usedCount; i++) {
                    int symbol = used[i];
                    if (symbol < EXTRA && lengths[symbol] == length) {
                        counts[length]++;
                        order[told] = symbol;
                        told++;
                        codes[symbol] = next;
                        next++;
                    }
                }
                next = 2 * next;
            }
        }
    }

    /** A canvas becomes bytes; each scan is gone through twice, for its codes' counts and for its bits. */
    private static final class Writer {
        private static final int MOST_BLOCKS = 16;

        private final Sink sink;
        private final int[] table = new int[64];
        private final int[] coefficients = new int[MOST_BLOCKS * 64];
        private final long[] halfway = new long[64];
        private final Suited[] suited = {new Suited(), new Suited()};
        private int blocks;
        private int interval;
        private int from;
        private int to;
        private int high;
        private int low;
        private boolean counting;
        private int before;
        // Bits of coefficients that are not 0 and were passed since the last code.
        private long waiting;
        private int waitingCount;

        Writer(Sink sink) {
            this.sink = sink;
        }

        void makeTable(int[] numbers, int quality) {
            int q = Math.max(1, quality);
            int s = q < 50 ? 5000 / q : 200 - 2 * q;
            for (int i = 0; i < 64; i++) {
                table[i] = Math.max(1, Math.min(255, (numbers[i] * s + 50) / 100));
            }
        }

        void transformCanvas(Draft draft) {
            int columns = Math.max(1, upward(draft.width, 8));
            blocks = Math.min(MOST_BLOCKS, columns * upward(draft.height, 8));
            for (int block = 0; block < blocks; block++) {
                transformRows(draft, block % columns * 8, block / columns * 8);
                for (int i = 0; i < 64; i++) {
                    coefficients[block * 64 + i] = divided(sumAt(ZIGZAG[i] & 7, ZIGZAG[i] >> 3), table[i]);
                }
            }
        }

        private void transformRows(Draft draft, int left, int top) {
            for (int y = 0; y < 8; y++) {
                for (int u = 0; u < 8; u++) {
                    long sum = 0;
                    for (int x = 0; x < 8; x++) {
                        sum += (long) cosine(u, x) * (draft.filledPoint(left + x, top + y) - 128);
                    }
                    halfway[8 * y + u] = sum;
                }
            }
        }

        private long sumAt(int u, int v) {
            long sum = 0;
            for (int y = 0; y < 8; y++) {
                sum += cosine(v, y) * halfway[8 * y + u];
            }
            return sum;
        }

        private static int divided(long sum, int number) {
            long divisor = (long) Math.max(1, number) << 26;
            int rounded = (int) ((Math.abs(sum) + divisor / 2) / divisor);
            return sum < 0 ? -rounded : rounded;
        }

        void putHead(Draft draft) {
            interval = draft.interval;
            sink.forget();
            sink.putMarker(216);
            sink.putMarker(219);
            sink.putTwo(67);
            sink.putByte(0);
            for (int i = 0; i < 64; i++) {
                sink.putByte(table[i]);
            }
            sink.putMarker(draft.scans > 0 ? 194 : 192);
            sink.putTwo(11);
            sink.putByte(8);
            sink.putTwo(draft.height);
            sink.putTwo(draft.width);
            sink.putByte(1);
            sink.putByte(1);
            sink.putByte(17);
            sink.putByte(0);
            if (interval > 0) {
                sink.putMarker(221);
                sink.putTwo(4);
                sink.putTwo(interval);
            }
        }

        void putEnd() {
            sink.putMarker(217);
        }

        void putScan(int newFrom, int newTo, int newHigh, int newLow) {
            from = newFrom;
            to = newTo;
            high = newHigh;
            low = newLow;
            suited[0].forget();
            suited[1].forget();
            counting = true;
            putBlocks();
            if (from == 0 && high == 0) {
                putCodes(0);
            }
            if (to > 0) {
                putCodes(1);
            }
            putScanHead();
            counting = false;
            putBlocks();
            sink.fillByte();
        }

        private void putCodes(int kind) {
            Suited codes = suited[kind];
            codes.suit();
            sink.putMarker(196);
            sink.putTwo(19 + codes.told);
            sink.putByte(16 * kind);
            for (int i = 1; i <= 16; i++) {
                sink.putByte(codes.counts[i]);
            }
            for (int i = 0; i < codes.told; i++) {
                sink.putByte(codes.order[i]);
            }
        }

        private void putScanHead() {
            sink.putMarker(218);
            sink.putTwo(8);
            sink.putByte(1);
            sink.putByte(1);
            sink.putByte(0);
            sink.putByte(from);
            sink.putByte(to);
            sink.putByte(16 * high + low);
        }

        private void putBlocks() {
            before = 0;
            for (int block = 0; block < blocks; block++) {
                if (interval > 0 && block > 0 && block % interval == 0) {
                    before = 0;
                    putRestart(block / interval - 1);
                }
                if (from == 0) {
                    putFirst(block * 64);
                }
                if (to > 0 && high > 0) {
                    refineOthers(block * 64);
                } else if (to > 0) {
                    putOthers(block * 64);
                }
            }
        }

        private void putRestart(int number) {
            if (!counting) {
                sink.fillByte();
                sink.putMarker(208 + number % 8);
            }
        }

        private void putSymbol(int kind, int symbol) {
            Suited codes = suited[kind];
            if (counting) {
                codes.countSymbol(symbol);
            } else {
                sink.putBits(codes.codes[symbol], codes.lengths[symbol]);
            }
        }

        private void putPlain(int value, int bits) {
            if (!counting) {
                sink.putBits(value, bits);
            }
        }

        private void putFirst(int base) {
            int value = coefficients[base] >> low;
            if (high > 0) {
                putPlain(value & 1, 1);
                return;
            }
            int difference = value - before;
            before = value;
            int s = bitsOf(difference);
            putSymbol(0, s);
            putPlain(difference < 0 ? difference - 1 : difference, s);
        }

        private static int bitsOf(int value) {
            return 32 - Integer.numberOfLeadingZeros(Math.abs(value));
        }

        private void putOthers(int base) {
            int run = 0;
            for (int k = Math.max(1, from); k <= to; k++) {
                int value = coefficients[base + k];
                int size = Math.abs(value) >> low;
                if (size == 0) {
                    run++;
                    continue;
                }
                while (run > 15) {
                    putSymbol(1, 240);
                    run -= 16;
                }
                int s = bitsOf(size);
                putSymbol(1, 16 * run + s);
                putPlain(value < 0 ? -size - 1 : size, s);
                run = 0;
            }
            if (run > 0) {
                putSymbol(1, 0);
            }
        }

        private void refineOthers(int base) {
            int last = lastNew(base);
            int run = 0;
            waitingCount = 0;
            for (int k = from; k <= to; k++) {
                int value = coefficients[base + k];
                int size = Math.abs(value) >> low;
                if (size == 0) {
                    run++;
                    continue;
                }
                while (run > 15 && k <= last) {
                    putSymbol(1, 240);
                    putWaiting();
                    run -= 16;
                }
                if (size > 1) {
                    waiting = 2 * waiting + (size & 1);
                    waitingCount++;
                    continue;
                }
                putSymbol(1, 16 * run + 1);
                putPlain(value < 0 ? 0 : 1, 1);
                putWaiting();
                run = 0;
            }
            if (run > 0 || waitingCount > 0) {
                putSymbol(1, 0);
                putWaiting();
            }
        }

        /** The last coefficient that becomes not 0 in this scan. */
        private int lastNew(int base) {
            int last = -1;
            for (int k = from; k <= to; k++) {
                if (Math.abs(coefficients[base + k]) >> low == 1) {
                    last = k;
                }
            }
            return last;
        }

        private void putWaiting() {
            for (int i = waitingCount - 1; i >= 0 && !counting; i--) {
                sink.putBits((int) (waiting >> i & 1), 1);
            }
            waitingCount = 0;
        }
    }
}
