/** Promise 6: exact. */
final class Promise06ExactTest {
    private static final Check CHECK = new Check();

    public static void main(String[] args) {
        int[] numbers = new int[64];
        int[] coefficients = new int[64];
        DctFilter x = new DctFilter();
        for (int i = 0; i < 64; i++) {
            numbers[i] = 1 + i * 37 % 255;
            x.table(0, i, numbers[i]);
            coefficients[i] = i * 7919 % 1023 - 511;
        }
        Stream stream = Stream.begin().frame(192, 8, 8).scan(1, 0, 63, 0, 0);
        for (int i = 0; i < 64; i++) {
            stream.value(0, coefficients[i]);
        }
        stream.end().giveTo(x);
        CHECK.same("read", x.read(), 8);
        CHECK.same("whole", x.told(-1, 5), 0);
        for (int i = 0; i < 64; i++) {
            CHECK.same("exact " + i, x.exact(0, i), ModelReader.exact(coefficients, numbers, i % 8, i / 8));
        }
        oneCoefficientAlone();
        int[][] outside = {{-1, 0}, {1, 0}, {0, -1}, {0, 64}, {Integer.MAX_VALUE, 0}, {0, Integer.MIN_VALUE}};
        for (int[] at : outside) {
            CHECK.refused("exact " + at[0] + " " + at[1], ArrayIndexOutOfBoundsException.class, () -> x.exact(at[0], at[1]));
        }
        CHECK.end();
    }

    /** Coefficient 1 is u = 1, so it is the same in all rows; coefficient 2 in all columns. */
    private static void oneCoefficientAlone() {
        long[] wave = {4017, 3406, 2276, 799, -799, -2276, -3406, -4017};
        DctFilter x = Stream.begin().frame(192, 16, 8).scan(1, 0, 63, 0, 0)
                .value(0, 0).value(0, 3).symbol(0).value(0, 0).value(1, -5).symbol(0).end().given();
        x.table(0, 1, 255);
        x.table(0, 2, 2);
        x.read();
        for (int i = 0; i < 64; i++) {
            CHECK.same("by columns", x.exact(0, i), 2896 * wave[i % 8] * 3 * 255);
            CHECK.same("by rows", x.exact(1, i), 2896 * wave[i / 8] * -5 * 2);
        }
    }
}
