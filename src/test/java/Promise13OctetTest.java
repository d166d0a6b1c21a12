/** Promise 13: octet. */
final class Promise13OctetTest {
    public static void main(String[] args) {
        Check check = new Check();
        DctFilter x = new DctFilter();
        check.refused("nothing written", ArrayIndexOutOfBoundsException.class, () -> x.octet(0));
        x.point(20, 20, 255);
        int big = x.encode(100);
        check.same("last", x.octet(big - 1), (byte) 217);
        check.same("last but one", x.octet(big - 2), (byte) 255);
        check.same("first", x.octet(0), (byte) 255);
        check.same("second", x.octet(1), (byte) 216);
        int small = x.encode(1);
        check.same("shorter", small < big ? 1 : 0, 1);
        for (int i : new int[] {-1, small, big - 1, Integer.MAX_VALUE, Integer.MIN_VALUE}) {
            check.refused("octet " + i, ArrayIndexOutOfBoundsException.class, () -> x.octet(i));
        }
        check.same("last of the last", x.octet(small - 1), (byte) 217);
        x.take();
        x.read();
        check.same("it stays behind take and read", x.octet(small - 1), (byte) 217);
        check.end();
    }
}
