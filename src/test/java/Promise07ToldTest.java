/** Promise 7: told. */
final class Promise07ToldTest {
    private static final Check CHECK = new Check();

    public static void main(String[] args) {
        Stream stream = Stream.begin().interval(1).frameOfThree(192, 33, 17, 33, 18, 17).scanOfThree(0, 63, 0, 0);
        for (int unit = 0; unit < 6; unit++) {
            if (unit > 0) {
                stream.restart(unit - 1);
            }
            if (unit == 4) {
                stream.bits(255, 8).bits(255, 8);
            }
            for (int i = 0; i < 5 && unit != 4; i++) {
                stream.flat(1);
            }
        }
        DctFilter x = stream.end().given();
        CHECK.same("read", x.read(), 17);
        // H and V are 2, so there are three by two units of 2 + 2 + 1 blocks.
        int[] due = {33, 17, 3, 12 + 12 + 6, 1, 5, 0};
        for (int what = 0; what < due.length; what++) {
            CHECK.same("told -1 " + what, x.told(-1, what), due[what]);
        }
        int[][] blocks = {{0, 0, 0, 0, 0}, {5, 0, 5, 0, 0}, {6, 0, 0, 1, 0}, {8, 0, 2, 1, 1}, {9, 0, 3, 1, 1},
            {12, 1, 0, 0, 0}, {19, 1, 1, 2, 1}, {22, 1, 1, 3, 1}, {23, 1, 2, 3, 0}, {24, 2, 0, 0, 0}, {28, 2, 1, 1, 1},
            {29, 2, 2, 1, 0}};
        for (int[] block : blocks) {
            for (int what = 0; what < 4; what++) {
                CHECK.same("told " + block[0] + " " + what, x.told(block[0], what), block[what + 1]);
            }
        }
        int[][] outside = {{-1, -1}, {-1, 7}, {-2, 0}, {0, -1}, {0, 4}, {29, 4}, {30, 0}, {Integer.MIN_VALUE, 0},
            {Integer.MAX_VALUE, 0}, {-1, Integer.MAX_VALUE}, {0, Integer.MIN_VALUE}};
        for (int[] at : outside) {
            CHECK.refused("told " + at[0] + " " + at[1], IndexOutOfBoundsException.class, () -> x.told(at[0], at[1]));
        }
        x.point(0, 0, 1);
        int count = x.encode(100);
        CHECK.same("written", x.told(-1, 6), count);
        CHECK.same("the picture stays", x.told(-1, 0), 33);
        CHECK.same("a fault", x.read(), -1);
        for (int what = 0; what < 6; what++) {
            CHECK.same("without a picture " + what, x.told(-1, what), 0);
        }
        CHECK.same("written still", x.told(-1, 6), count);
        CHECK.refused("no block", IndexOutOfBoundsException.class, () -> x.told(0, 0));
        CHECK.end();
    }
}
