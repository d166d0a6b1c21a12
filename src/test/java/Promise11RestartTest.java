/** Promise 11: restart. */
final class Promise11RestartTest {
    public static void main(String[] args) {
        Check check = new Check();
        DctFilter x = new DctFilter();
        check.same("at first", x.restart(100), 0);
        check.same("100", x.restart(1), 100);
        for (int n : new int[] {-1, 101, Integer.MAX_VALUE, Integer.MIN_VALUE}) {
            check.refused("restart " + n, IllegalArgumentException.class, () -> x.restart(n));
        }
        check.same("1", x.restart(2), 1);
        x.point(31, 7, 200);
        x.encode(50);
        int[] head = {255, 221, 0, 4, 0, 2};
        for (int i = 0; i < head.length; i++) {
            check.same("head " + i, x.octet(84 + i), (byte) head[i]);
        }
        int count = x.told(-1, 6);
        int markers = 0;
        for (int i = 0; i + 1 < count; i++) {
            boolean marker = x.octet(i) == -1 && x.octet(i + 1) >= (byte) 208 && x.octet(i + 1) <= (byte) 215;
            markers += marker ? 1 : 0;
        }
        check.same("a marker between two intervals", markers, 1);
        x.take();
        check.same("read", x.read(), 8);
        check.same("whole", x.told(-1, 5), 0);
        check.same("it stays", x.restart(0), 2);
        x.encode(50);
        check.same("no interval", x.octet(85) == (byte) 221 ? 1 : 0, 0);
        check.end();
    }
}
