/** Promise 8: table. */
final class Promise08TableTest {
    public static void main(String[] args) {
        Check check = new Check();
        DctFilter x = new DctFilter();
        for (int kind = 0; kind < 4; kind++) {
            for (int i = 0; i < 64; i++) {
                check.same("at first", x.table(kind, i, 1 + (kind * 64 + i) % 255), 16);
            }
        }
        for (int kind = 0; kind < 4; kind++) {
            for (int i = 0; i < 64; i++) {
                check.same("as told", x.table(kind, i, -1), 1 + (kind * 64 + i) % 255);
                check.same("-1 leaves it", x.table(kind, i, -1), 1 + (kind * 64 + i) % 255);
            }
        }
        check.same("255", x.table(3, 63, 255), 1);
        check.same("1", x.table(3, 63, 1), 255);
        for (int v : new int[] {0, 256, -2, Integer.MAX_VALUE, Integer.MIN_VALUE}) {
            check.refused("value " + v, IllegalArgumentException.class, () -> x.table(3, 63, v));
        }
        check.same("stays", x.table(3, 63, -1), 1);
        int[][] outside = {{-1, 0}, {4, 0}, {0, -1}, {0, 64}, {Integer.MAX_VALUE, 0}, {0, Integer.MIN_VALUE}};
        for (int[] at : outside) {
            for (int v : new int[] {-1, 5, 0}) {
                check.refused("table " + at[0] + " " + at[1], IndexOutOfBoundsException.class, () -> x.table(at[0], at[1], v));
            }
        }
        check.end();
    }
}
