/** What is said of the least and greatest coefficients, samples, colours and table numbers, and of rounding. */
final class SentencesOfNumbersTest {
    private static final Check CHECK = new Check();
    private static final long FLAT = 2896L * 2896;

    public static void main(String[] args) {
        coefficientsAreInts();
        exactIsALong();
        samplesAtLeast0AtMost255();
        samplesAreMovedRight();
        coloursAtLeast0AtMost255();
        coloursOfOneBand();
        qualityBelow50AndElse();
        tableAtLeast1AtMost255();
        halvesAwayFrom0();
        bandsUpwardAndDownward();
        blocksAreFilledUp();
        CHECK.end();
    }

    /** "COEFFICIENTS of a block, ints that wrap around": the greatest that 64 blocks can tell, and bits joined to them. */
    private static void coefficientsAreInts() {
        for (int sign : new int[] {1, -1}) {
            Stream stream = Stream.begin().frame(194, 64, 64).scan(1, 0, 0, 0, 13);
            for (int i = 0; i < 64; i++) {
                stream.value(0, sign * 2047);
            }
            stream.fill().scan(1, 0, 0, 13, 12);
            for (int i = 0; i < 64; i++) {
                stream.bits(1, 1);
            }
            DctFilter x = stream.end().given();
            CHECK.same("read", x.read(), 64);
            CHECK.same("whole", x.told(-1, 5), 0);
            for (int i = 0; i < 64; i++) {
                CHECK.same("block " + i, x.coefficient(i, 0), ((i + 1) * sign * 2047 << 13) + 4096);
            }
        }
        for (int value : new int[] {1023, -1023}) {
            DctFilter x = Stream.begin().frame(194, 8, 8).scan(1, 63, 63, 0, 13).value(0, value).end().given();
            x.read();
            CHECK.same("others", x.coefficient(0, 63), value << 13);
        }
    }

    private static void exactIsALong() {
        Stream stream = Stream.begin().frame(194, 64, 64).scan(1, 0, 0, 0, 13);
        for (int i = 0; i < 64; i++) {
            stream.value(0, i < 63 ? -2047 : 2047);
        }
        stream.fill().scan(1, 1, 63, 0, 13).value(0, -1023);
        DctFilter x = stream.symbol(0).end().given();
        x.table(0, 0, 255);
        x.table(0, 1, 255);
        CHECK.same("read", x.read(), 64);
        CHECK.same("the least", x.exact(62, 5), FLAT * 255 * (-63L * 2047 << 13));
        long others = 2896L * 4017 * 255 * (-1023L << 13);
        CHECK.same("the sum", x.exact(0, 0), FLAT * 255 * (-2047L << 13) + others);
        CHECK.same("at the other end", x.exact(0, 63), FLAT * 255 * (-2047L << 13) - others);
        CHECK.same("its sample", x.sample(48, 56, 0), 0);
    }

    /** A block of one first coefficient, times a number of the table. */
    private static DctFilter flat(int coefficient, int number) {
        DctFilter x = Stream.begin().frame(192, 8, 8).scan(1, 0, 63, 0, 0).flat(coefficient).end().given();
        x.table(0, 0, number);
        x.read();
        return x;
    }

    /** "and 128; at least 0, at most 255" */
    private static void samplesAtLeast0AtMost255() {
        int[][] cases = {{126 * 8, 254}, {127 * 8, 255}, {128 * 8, 255}, {129 * 8, 255}, {-127 * 8, 1}, {-128 * 8, 0}, {-129 * 8, 0},
            {-130 * 8, 0}, {2047, 255}, {-2047, 0}};
        for (int[] one : cases) {
            CHECK.same("sample of " + one[0], flat(one[0], 1).sample(7, 7, 0), one[1]);
        }
        CHECK.same("far above", flat(2047, 255).sample(0, 0, 0), 255);
        CHECK.same("far below", flat(-2047, 255).sample(0, 0, 0), 0);
        Stream high = Stream.begin().frame(194, 8, 8).scan(1, 0, 0, 0, 13).value(0, 2047).end();
        DctFilter x = high.given();
        x.table(0, 0, 255);
        x.read();
        CHECK.same("beyond an int", x.sample(0, 0, 0), 255);
    }

    /** "(that + 2^25) moved right by 26": downward, also below 0. */
    private static void samplesAreMovedRight() {
        for (int value = -200; value <= 200; value++) {
            int due = (int) Math.floor((value * FLAT + (1 << 25)) / (double) (1 << 26)) + 128;
            CHECK.same("sample of " + value, flat(value, 1).sample(3, 4, 0), due);
        }
        CHECK.same("4 is below a half", flat(4, 1).sample(0, 0, 0), 128);
        CHECK.same("5 is above", flat(5, 1).sample(0, 0, 0), 129);
        CHECK.same("-4 is above minus a half", flat(-4, 1).sample(0, 0, 0), 128);
        CHECK.same("-5 is below", flat(-5, 1).sample(0, 0, 0), 127);
    }

    /** "0 at least, 255 at most" of red, green, blue; below, within and above are all among the cases. */
    private static void coloursAtLeast0AtMost255() {
        int[][] seen = new int[3][3];
        for (int a = 0; a < 256; a += 51) {
            for (int b = -128; b < 128; b += 3) {
                for (int c = -128; c < 128; c += 17) {
                    colours(a, (b % 2 == 0) ? b : c, (b % 2 == 0) ? c : b, seen);
                }
            }
        }
        for (int[] kinds : seen) {
            for (int kind = 0; kind < 3; kind++) {
                CHECK.same("such a case is among them", kinds[kind] > 0 ? 1 : 0, 1);
            }
        }
    }

    private static void colours(int a, int b, int c, int[][] seen) {
        Stream stream = Stream.begin().frameOfThree(192, 1, 1, 17, 17, 17).scanOfThree(0, 63, 0, 0);
        DctFilter x = stream.flat(a - 128).flat(b).flat(c).end().given();
        for (int kind = 0; kind < 3; kind++) {
            x.table(kind, 0, 8);
        }
        x.read();
        double[] raw = {a + Math.floor((91881.0 * c + 32768) / 65536), a - Math.floor((22554.0 * b + 46802.0 * c + 32768) / 65536),
            a + Math.floor((116130.0 * b + 32768) / 65536)};
        for (int i = 0; i < 3; i++) {
            int due = (int) Math.max(0, Math.min(255, raw[i]));
            CHECK.same("colour " + i + " of " + a + " " + b + " " + c, x.sample(0, 0, 3 + i), due);
            seen[i][raw[i] < 0 ? 0 : raw[i] > 255 ? 2 : 1]++;
        }
    }

    /** "with one band that" */
    private static void coloursOfOneBand() {
        for (int value : new int[] {-2047, -1000, -3, 0, 77, 2047}) {
            DctFilter x = flat(value, 1);
            for (int band = 3; band <= 5; band++) {
                CHECK.same("band " + band, x.sample(0, 0, band), x.sample(0, 0, 0));
            }
        }
    }

    /** Number i of the table that is written. */
    private static int writtenNumber(int quality, int number) {
        DctFilter x = new DctFilter();
        x.table(0, 63, number);
        x.point(0, 0, 128);
        x.encode(quality);
        return x.octet(7 + 63) & 255;
    }

    /** "QUALITY q: s is 5000 / q below 50, else 200 - 2 q" */
    private static void qualityBelow50AndElse() {
        // s is 5000, 2500, 1666, 104, 102, 100, 98, 2, 0.
        int[] qualities = {1, 2, 3, 48, 49, 50, 51, 99, 100};
        int[] of5 = {250, 125, 83, 5, 5, 5, 5, 1, 1};
        int[] of100 = {255, 255, 255, 104, 102, 100, 98, 2, 1};
        int[] of255 = {255, 255, 255, 255, 255, 255, 250, 5, 1};
        for (int i = 0; i < qualities.length; i++) {
            CHECK.same("5 by " + qualities[i], writtenNumber(qualities[i], 5), of5[i]);
            CHECK.same("100 by " + qualities[i], writtenNumber(qualities[i], 100), of100[i]);
            CHECK.same("255 by " + qualities[i], writtenNumber(qualities[i], 255), of255[i]);
        }
    }

    /** "1 at least, 255 at most" */
    private static void tableAtLeast1AtMost255() {
        CHECK.same("0 becomes 1", writtenNumber(100, 255), 1);
        CHECK.same("(1 times 48 + 50) / 100 is 0", writtenNumber(76, 1), 1);
        CHECK.same("(1 times 50 + 50) / 100 is 1", writtenNumber(75, 1), 1);
        CHECK.same("(3 times 48 + 50) / 100 is 1", writtenNumber(76, 3), 1);
        CHECK.same("(3 times 50 + 50) / 100 is 2", writtenNumber(75, 3), 2);
        CHECK.same("(5 times 5000 + 50) / 100 is 250", writtenNumber(1, 5), 250);
        CHECK.same("300 becomes 255", writtenNumber(1, 6), 255);
        CHECK.same("(255 times 100 + 50) / 100 is 255", writtenNumber(50, 255), 255);
        CHECK.same("260 becomes 255", writtenNumber(49, 255), 255);
    }

    /** Coefficient 1 of a block whose sum for u = 1, v = 0 is this many times 2896 times 2^16. */
    private static int rounded(int[] sums, int sign, int number) {
        DctFilter x = new DctFilter();
        x.table(0, 1, number);
        for (int column = 0; column < 8; column++) {
            for (int row = 0; row < 8; row++) {
                int part = sums[column] / 8 + (row < Math.abs(sums[column] % 8) ? Integer.signum(sums[column]) : 0);
                x.point(column, row, 128 + sign * part);
            }
        }
        x.encode(50);
        x.take();
        CHECK.same("read", x.read(), 8);
        return x.coefficient(0, 1);
    }

    /** "rounded, halves away from 0" */
    private static void halvesAwayFrom0() {
        // 4017 * 486 + 3406 * 24 + 2276 * 13 + 799 * 42 is 2^21; 2896 is 16 * 181: with number 181 a half of 2^26.
        int[] sums = {486, 24, 13, 42, 0, 0, 0, 0};
        CHECK.same("the sum", 4017 * 486 + 3406 * 24 + 2276 * 13 + 799 * 42, 1 << 21);
        CHECK.same("a half", rounded(sums, 1, 181), 1);
        CHECK.same("minus a half", rounded(sums, -1, 181), -1);
        CHECK.same("below a half", rounded(sums, 1, 182), 0);
        CHECK.same("above minus a half", rounded(sums, -1, 182), 0);
        CHECK.same("above a half", rounded(sums, 1, 180), 1);
        // The columns 7 .. 4 have the same waves, less: twice the sum is a whole, and thrice one and a half.
        int[] more = {486, 24, 13, 42, -42, -13, -24, -486};
        CHECK.same("one", rounded(more, 1, 181), 1);
        CHECK.same("minus one", rounded(more, -1, 181), -1);
        CHECK.same("nearly one and a half", rounded(more, 1, 121), 1);
        CHECK.same("more than one and a half", rounded(more, 1, 120), 2);
        CHECK.same("less than minus one and a half", rounded(more, -1, 120), -2);
    }

    /** "(width h / H, upward) by (height v / V, upward) samples"; "(x h / H, y v / V), downward" */
    private static void bandsUpwardAndDownward() {
        for (int width : new int[] {1, 2, 15, 16, 17, 31, 32, 33, 64}) {
            Stream stream = Stream.begin().frameOfThree(192, width, 1, 0x21, 0x11, 0x11).scan(2, 0, 63, 0, 0);
            int blocks = ((width + 1) / 2 + 7) / 8;
            for (int i = 0; i < blocks; i++) {
                stream.value(0, 0).value(0, 8 + i).symbol(0);
            }
            DctFilter x = stream.end().given();
            CHECK.same("read", x.read(), 1);
            CHECK.same("whole", x.told(-1, 5), 0);
            int units = (width + 15) / 16;
            CHECK.same("blocks of width " + width, x.told(-1, 3), 4 * units);
            for (int at = 0; at < width; at++) {
                int column = at / 2;
                long exact = x.exact(2 * units + column / 8, column % 8);
                int due = (int) Math.max(0, Math.min(255, Math.floor((exact + (1 << 25)) / (double) (1 << 26)) + 128));
                CHECK.same("sample at " + at + " of " + width, x.sample(at, 0, 1), due);
            }
        }
    }

    /** "its points to the greatest x and y that were put .. blocks filled up by their last column and row" */
    private static void blocksAreFilledUp() {
        DctFilter x = new DctFilter();
        x.point(0, 0, 200);
        DctFilter y = new DctFilter();
        for (int i = 0; i < 64; i++) {
            y.point(i % 8, i / 8, 200);
        }
        alike(x, y, 1, 1);
        x.point(9, 0, 7);
        x.point(0, 2, 9);
        for (int i = 0; i < 128; i++) {
            int column = i % 16;
            int row = i / 16;
            boolean last = column >= 9;
            int v = row == 0 ? column == 0 ? 200 : last ? 7 : 0 : row == 1 ? 0 : column == 0 ? 9 : 0;
            y.point(column, row, v);
        }
        alike(x, y, 10, 3);
    }

    /** The same coefficients are written of both. */
    private static void alike(DctFilter x, DctFilter y, int width, int height) {
        x.encode(80);
        y.encode(80);
        x.take();
        y.take();
        CHECK.same("rows", x.read(), height);
        CHECK.same("columns", x.told(-1, 0), width);
        y.read();
        CHECK.same("blocks", x.told(-1, 3), y.told(-1, 3));
        for (int i = 0; i < 64 * x.told(-1, 3); i++) {
            CHECK.same("coefficient", x.coefficient(i / 64, i % 64), y.coefficient(i / 64, i % 64));
        }
    }
}
