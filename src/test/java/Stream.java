/** Builds bytes to read, in the first codes of the class: each symbol has 8 bits and is its own code. */
final class Stream {
    private final int[] bytes = new int[4000];
    private int size;
    private int current;
    private int held;

    static Stream begin() {
        return new Stream().put(255, 216);
    }

    /** Whole bytes; a test that puts them where bits of a byte are still held is itself wrong. */
    Stream put(int... values) {
        if (held != 0) {
            throw new IllegalStateException("fill() or restart() comes first");
        }
        for (int value : values) {
            bytes[size++] = value & 255;
        }
        return this;
    }

    int size() {
        return size;
    }

    int at(int place) {
        return bytes[place];
    }

    Stream change(int place, int value) {
        bytes[place] = value & 255;
        return this;
    }

    Stream prefix(int count) {
        return new Stream().put(java.util.Arrays.copyOf(bytes, count));
    }

    Stream copy() {
        Stream made = prefix(size);
        made.current = current;
        made.held = held;
        return made;
    }

    /** A frame of one band named 1, table 0. */
    Stream frame(int marker, int width, int height) {
        return put(255, marker, 0, 11, 8, 0, height, 0, width, 1, 1, 17, 0);
    }

    /** A frame of three bands named 1, 2, 3 with tables 0, 1, 2. */
    Stream frameOfThree(int marker, int width, int height, int one, int two, int three) {
        return put(255, marker, 0, 17, 8, 0, height, 0, width, 3, 1, one, 0, 2, two, 1, 3, three, 2);
    }

    /** A table of a segment 219: its number, and 64 numbers of which one may be 0. */
    Stream table(int number, int zeroAt) {
        put(number);
        for (int i = 0; i < 64; i++) {
            put(i == zeroAt ? 0 : 255 - i);
        }
        return this;
    }

    /** Codes of a segment 196, so many of each length from 1 on; their symbols are 0, 1, ... */
    Stream codes(int kind, int... counts) {
        put(kind);
        int sum = 0;
        for (int i = 0; i < 16; i++) {
            int count = i < counts.length ? counts[i] : 0;
            put(count);
            sum += count;
        }
        for (int i = 0; i < sum; i++) {
            put(i);
        }
        return this;
    }

    Stream segment(int marker, int length) {
        return put(255, marker, length >> 8, length & 255);
    }

    Stream interval(int n) {
        return put(255, 221, 0, 4, n >> 8, n & 255);
    }

    /** The head of a scan of one band. */
    Stream scan(int name, int from, int to, int high, int low) {
        return put(255, 218, 0, 8, 1, name, 0, from, to, 16 * high + low);
    }

    Stream scanOfThree(int from, int to, int high, int low) {
        return put(255, 218, 0, 12, 3, 1, 0, 2, 0, 3, 0, from, to, 16 * high + low);
    }

    Stream bits(int value, int count) {
        for (int i = count - 1; i >= 0; i--) {
            current = 2 * current + (value >> i & 1);
            if (++held == 8) {
                held = 0;
                put(current);
                if (current == 255) {
                    put(0);
                }
                current = 0;
            }
        }
        return this;
    }

    Stream symbol(int symbol) {
        return bits(symbol, 8);
    }

    /** A symbol 16 r + s, and the value in s bits. */
    Stream value(int r, int value) {
        int s = 32 - Integer.numberOfLeadingZeros(Math.abs(value));
        return symbol(16 * r + s).bits(value < 0 ? value - 1 : value, s);
    }

    /** Of a frame 192: a difference and nothing more. */
    Stream flat(int difference) {
        return value(0, difference).symbol(0);
    }

    Stream fill() {
        while (held > 0) {
            bits(1, 1);
        }
        return this;
    }

    Stream restart(int number) {
        return restart(number, 0);
    }

    /** A marker may have more bytes 255. */
    Stream restart(int number, int more) {
        fill();
        for (int i = 0; i < more; i++) {
            put(255);
        }
        return put(255, 208 + number);
    }

    Stream end() {
        return fill().put(255, 217);
    }

    void giveTo(DctFilter filter) {
        for (int i = 0; i < size; i++) {
            filter.add((byte) bytes[i]);
        }
    }

    DctFilter given() {
        DctFilter filter = new DctFilter();
        giveTo(filter);
        return filter;
    }

    int answer() {
        return given().read();
    }
}
