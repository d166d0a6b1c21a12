/** Promise 5: coefficient. */
final class Promise05CoefficientTest {
    private static final Check CHECK = new Check();

    public static void main(String[] args) {
        Stream stream = Stream.begin().frame(192, 16, 8).scan(1, 0, 63, 0, 0);
        stream.value(0, -2047);
        for (int i = 1; i < 64; i++) {
            stream.value(0, i % 2 == 0 ? i : -1023 + i);
        }
        stream.value(0, 2047).symbol(240).value(14, 77).symbol(240).symbol(240).end();
        DctFilter x = stream.given();
        CHECK.same("read", x.read(), 8);
        CHECK.same("whole", x.told(-1, 5), 0);
        CHECK.same("first", x.coefficient(0, 0), -2047);
        for (int i = 1; i < 64; i++) {
            CHECK.same("coefficient " + i, x.coefficient(0, i), i % 2 == 0 ? i : -1023 + i);
            CHECK.same("block 1 coefficient " + i, x.coefficient(1, i), i == 31 ? 77 : 0);
        }
        CHECK.same("difference", x.coefficient(1, 0), 0);
        x.table(0, 5, 99);
        CHECK.same("not times the table", x.coefficient(0, 4), 4);
        int[][] outside = {{-1, 0}, {2, 0}, {0, -1}, {0, 64}, {Integer.MAX_VALUE, 63}, {Integer.MIN_VALUE, 0},
            {1, Integer.MAX_VALUE}, {1 << 26, 0}};
        for (int[] at : outside) {
            CHECK.refused("coefficient " + at[0] + " " + at[1], ArrayIndexOutOfBoundsException.class,
                    () -> x.coefficient(at[0], at[1]));
        }
        wrapping();
        CHECK.end();
    }

    /** Coefficients are ints that wrap around: 2047 moved left by 13, and more than that. */
    private static void wrapping() {
        Stream stream = Stream.begin().frame(194, 64, 64).scan(1, 0, 0, 0, 13);
        for (int i = 0; i < 64; i++) {
            stream.value(0, 2047);
        }
        DctFilter x = stream.end().given();
        CHECK.same("read", x.read(), 64);
        CHECK.same("first", x.coefficient(0, 0), 2047 << 13);
        CHECK.same("last", x.coefficient(63, 0), 64 * 2047 << 13);
    }
}
