/** Promise 10: scan. */
final class Promise10ScanTest {
    private static final Check CHECK = new Check();

    public static void main(String[] args) {
        ranges();
        bitsInOrder();
        atMostTen();
        encodeForgets();
        CHECK.end();
    }

    private static void ranges() {
        DctFilter x = new DctFilter();
        CHECK.same("none from 0 yet", x.scan(1, 63, 0), 0);
        int[][] wrong = {{0, 1, 0}, {0, 63, 0}, {-1, 0, 0}, {-1, -1, 0}, {0, 0, -1}, {0, 0, 4}, {0, -1, 0},
            {Integer.MIN_VALUE, 0, 0}, {0, Integer.MAX_VALUE, 0}, {0, 0, Integer.MAX_VALUE}};
        for (int[] scan : wrong) {
            CHECK.same("scan " + scan[0] + " " + scan[1] + " " + scan[2], x.scan(scan[0], scan[1], scan[2]), 0);
        }
        CHECK.same("first", x.scan(0, 0, 0), 1);
        CHECK.same("first twice", x.scan(0, 0, 0), 0);
        int[][] others = {{2, 1, 0}, {1, 64, 0}, {64, 64, 0}, {63, 62, 0}, {1, 0, 0}, {1, 63, 4}, {1, 63, -1},
            {1, Integer.MAX_VALUE, 0}, {Integer.MAX_VALUE, Integer.MAX_VALUE, 0}};
        for (int[] scan : others) {
            CHECK.same("scan " + scan[0] + " " + scan[1] + " " + scan[2], x.scan(scan[0], scan[1], scan[2]), 0);
        }
        CHECK.same("one coefficient", x.scan(63, 63, 3), 2);
        CHECK.same("overlapping", x.scan(62, 63, 2), 0);
        CHECK.same("all before", x.scan(1, 62, 3), 3);
        CHECK.same("over both", x.scan(1, 63, 2), 4);
    }

    private static void bitsInOrder() {
        DctFilter x = new DctFilter();
        CHECK.same("bit 3", x.scan(0, 0, 3), 1);
        CHECK.same("bit 1 is too low", x.scan(0, 0, 1), 0);
        CHECK.same("bit 3 again", x.scan(0, 0, 3), 0);
        CHECK.same("bit 2", x.scan(0, 0, 2), 2);
        CHECK.same("others, bit 1", x.scan(1, 5, 1), 3);
        CHECK.same("others, rest", x.scan(6, 63, 0), 4);
        CHECK.same("not alike", x.scan(5, 6, 0), 0);
        CHECK.same("higher again", x.scan(1, 5, 2), 0);
        CHECK.same("others, bit 0", x.scan(2, 4, 0), 5);
        CHECK.same("nothing below 0", x.scan(2, 4, -1), 0);
        CHECK.same("some of them are lower", x.scan(1, 5, 0), 0);
    }

    private static void atMostTen() {
        DctFilter x = new DctFilter();
        CHECK.same("first", x.scan(0, 0, 0), 1);
        for (int i = 1; i < 10; i++) {
            CHECK.same("scan", x.scan(i, i, 0), i + 1);
        }
        CHECK.same("eleventh", x.scan(10, 10, 0), 0);
    }

    private static void encodeForgets() {
        DctFilter x = new DctFilter();
        x.scan(0, 0, 0);
        CHECK.refused("no point", IllegalStateException.class, () -> x.encode(1));
        CHECK.same("still told", x.scan(1, 63, 0), 2);
        x.point(0, 0, 0);
        CHECK.refused("quality", IllegalArgumentException.class, () -> x.encode(0));
        CHECK.same("still told", x.scan(0, 0, 0), 0);
        x.encode(50);
        CHECK.same("by and by", x.octet(72), (byte) 194);
        CHECK.same("none from 0 again", x.scan(1, 63, 0), 0);
        CHECK.same("first again", x.scan(0, 0, 2), 1);
        x.encode(50);
        CHECK.same("by and by again", x.octet(72), (byte) 194);
        x.encode(50);
        CHECK.same("whole", x.octet(72), (byte) 192);
    }
}
