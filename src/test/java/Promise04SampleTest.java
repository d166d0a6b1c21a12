/** Promise 4: sample. */
final class Promise04SampleTest {
    private static final Check CHECK = new Check();

    public static void main(String[] args) {
        oneBand();
        roundingAndEnds();
        threeBands();
        allColours();
        CHECK.end();
    }

    private static void oneBand() {
        DctFilter x = Stream.begin().frame(192, 9, 3).scan(1, 0, 63, 0, 0).flat(20).flat(-50).end().given();
        CHECK.same("read", x.read(), 3);
        for (int band : new int[] {0, 3, 4, 5}) {
            CHECK.same("left", x.sample(7, 2, band), 128 + 40);
            CHECK.same("right", x.sample(8, 0, band), 128 - 60);
        }
        for (int band : new int[] {-1, 1, 2, 6, Integer.MAX_VALUE, Integer.MIN_VALUE}) {
            CHECK.refused("band " + band, IndexOutOfBoundsException.class, () -> x.sample(0, 0, band));
        }
        int[][] outside = {{-1, 0}, {9, 0}, {0, -1}, {0, 3}, {Integer.MAX_VALUE, 0}, {0, Integer.MIN_VALUE}};
        for (int[] at : outside) {
            CHECK.refused("point " + at[0] + " " + at[1], IndexOutOfBoundsException.class, () -> x.sample(at[0], at[1], 0));
        }
    }

    private static void roundingAndEnds() {
        int[][] cases = {{2047, 255}, {-2047, 0}, {64, 255}, {63, 254}, {-64, 0}, {0, 128}, {1, 130}, {-1, 126}};
        for (int[] one : cases) {
            DctFilter x = Stream.begin().frame(192, 1, 1).scan(1, 0, 63, 0, 0).flat(one[0]).end().given();
            x.read();
            CHECK.same("sample of " + one[0], x.sample(0, 0, 0), one[1]);
        }
        // 2896 * 2896 is a little below 2^23: halves go downward here, and up for what is below 0.
        int[][] byNumber = {{1, 4, 128}, {1, 5, 129}, {1, 12, 129}, {1, 13, 130}, {-1, 4, 128}, {-1, 5, 127}, {-1, 3, 128}};
        for (int[] one : byNumber) {
            DctFilter x = Stream.begin().frame(192, 1, 1).scan(1, 0, 63, 0, 0).flat(one[0]).end().given();
            x.table(0, 0, one[1]);
            x.read();
            CHECK.same("sample of " + one[0] + " times " + one[1], x.sample(0, 0, 0), one[2]);
        }
    }

    private static int limited(double value) {
        return (int) Math.max(0, Math.min(255, value));
    }

    private static void threeBands() {
        int[][] values = {{0, 0, 0}, {30, 20, -10}, {-60, 63, 63}, {60, -64, -64}, {10, -63, 50}, {-3, 7, 1}};
        for (int[] value : values) {
            Stream stream = Stream.begin().frameOfThree(192, 17, 30, 34, 33, 17).scanOfThree(0, 63, 0, 0);
            for (int unit = 0; unit < 4; unit++) {
                for (int i = 0; i < 4; i++) {
                    stream.flat(unit == 0 && i == 0 ? value[0] : 0);
                }
                stream.flat(unit == 0 ? value[1] : 0).flat(0).flat(unit == 0 ? value[2] : 0);
            }
            DctFilter x = stream.end().given();
            CHECK.same("read", x.read(), 30);
            for (int[] at : new int[][] {{0, 0}, {16, 29}, {7, 16}}) {
                int a = x.sample(at[0], at[1], 0);
                int b = x.sample(at[0], at[1], 1) - 128;
                int c = x.sample(at[0], at[1], 2) - 128;
                CHECK.same("band 0", a, limited(128 + 2 * value[0]));
                CHECK.same("band 1", b, limited(128 + 2 * value[1]) - 128);
                CHECK.same("band 2", c, limited(128 + 2 * value[2]) - 128);
                CHECK.same("red", x.sample(at[0], at[1], 3), limited(a + Math.floor((91881 * c + 32768) / 65536.0)));
                double green = a - Math.floor((22554 * b + 46802 * c + 32768) / 65536.0);
                CHECK.same("green", x.sample(at[0], at[1], 4), limited(green));
                CHECK.same("blue", x.sample(at[0], at[1], 5), limited(a + Math.floor((116130 * b + 32768) / 65536.0)));
            }
            CHECK.refused("band 6", IndexOutOfBoundsException.class, () -> x.sample(0, 0, 6));
            CHECK.refused("column 17", IndexOutOfBoundsException.class, () -> x.sample(17, 0, 2));
        }
        smallerBands();
    }

    /** A band of half the columns and rows has each sample at four points. */
    private static void smallerBands() {
        Stream stream = Stream.begin().frameOfThree(192, 15, 16, 34, 17, 18).scanOfThree(0, 63, 0, 0);
        stream.flat(0).flat(0).flat(0).flat(0);
        stream.value(0, 1).value(0, 30).symbol(0).flat(10).flat(20);
        DctFilter x = stream.end().given();
        CHECK.same("read", x.read(), 16);
        for (int i = 0; i < 15; i++) {
            long exact = x.exact(4, i / 2);
            CHECK.same("half the columns", x.sample(i, 9, 1), limited(128 + Math.floor((exact + (1 << 25)) / (double) (1 << 26))));
        }
        CHECK.same("row 7 of a band with all rows", x.sample(0, 7, 2), 128 + 20);
        CHECK.same("row 8 of a band with all rows", x.sample(14, 8, 2), 128 + 60);
    }

    /** With numbers 8 a first coefficient v is a sample 128 + v; 64 colours a picture. */
    private static void allColours() {
        DctFilter x = new DctFilter();
        for (int kind = 0; kind < 3; kind++) {
            x.table(kind, 0, 8);
        }
        for (int first = 0; first < 65536; first += 64) {
            Stream stream = Stream.begin().frameOfThree(192, 64, 64, 17, 17, 17).scanOfThree(0, 63, 0, 0);
            int a = first % 255;
            for (int i = 0; i < 64; i++) {
                int colour = first + i;
                stream.flat(i == 0 ? a - 128 : 0).flat(i == 0 ? colour / 256 - 128 : 0).flat(i == 0 ? colour % 256 - 128 : 1);
            }
            stream.end().giveTo(x);
            CHECK.same("read", x.read(), 64);
            for (int i = 0; i < 64; i++) {
                int b = (first + i) / 256 - 128;
                int c = (first + i) % 256 - 128;
                int px = i % 8 * 8 + 3;
                int py = i / 8 * 8 + 5;
                CHECK.same("band 0", x.sample(px, py, 0), a);
                CHECK.same("red", x.sample(px, py, 3), limited(a + Math.floor((91881 * c + 32768) / 65536.0)));
                CHECK.same("green", x.sample(px, py, 4), limited(a - Math.floor((22554 * b + 46802 * c + 32768) / 65536.0)));
                CHECK.same("blue", x.sample(px, py, 5), limited(a + Math.floor((116130 * b + 32768) / 65536.0)));
            }
        }
    }
}
