/** Promise 9: point. */
final class Promise09PointTest {
    public static void main(String[] args) {
        Check check = new Check();
        DctFilter x = new DctFilter();
        check.refused("nothing put", IllegalStateException.class, () -> x.encode(50));
        for (int v : new int[] {-1, 256, Integer.MAX_VALUE, Integer.MIN_VALUE}) {
            check.refused("value " + v, IllegalArgumentException.class, () -> x.point(31, 31, v));
        }
        int[][] outside = {{-1, 0}, {32, 0}, {0, -1}, {0, 32}, {Integer.MAX_VALUE, 0}, {0, Integer.MIN_VALUE}};
        for (int[] at : outside) {
            for (int v : new int[] {0, -1}) {
                check.refused("point " + at[0] + " " + at[1], IndexOutOfBoundsException.class, () -> x.point(at[0], at[1], v));
            }
        }
        check.refused("still nothing put", IllegalStateException.class, () -> x.encode(50));
        check.same("first", x.point(3, 5, 0), 0);
        check.same("count", x.encode(50) > 0 ? 1 : 0, 1);
        check.same("height", x.octet(77), 6);
        check.same("width", x.octet(79), 4);
        for (int y = 0; y < 32; y++) {
            for (int i = 0; i < 32; i++) {
                check.same("before", x.point(i, y, (i * 8 + y) & 255), 0);
            }
        }
        for (int y = 0; y < 32; y++) {
            for (int i = 0; i < 32; i++) {
                check.same("what it was", x.point(i, y, 255), (i * 8 + y) & 255);
            }
        }
        x.encode(50);
        check.same("height of all", x.octet(77), 32);
        check.same("width of all", x.octet(79), 32);
        check.end();
    }
}
