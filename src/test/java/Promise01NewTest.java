/** Promise 1: a new object. */
final class Promise01NewTest {
    public static void main(String[] args) {
        Check check = new Check();
        for (int what = 0; what <= 6; what++) {
            check.same("told -1 " + what, new DctFilter().told(-1, what), 0);
        }
        check.same("read of no bytes", new DctFilter().read(), -1);
        check.same("take of nothing", new DctFilter().take(), 0);
        check.same("interval", new DctFilter().restart(7), 0);
        check.same("point", new DctFilter().point(31, 31, 9), 0);
        check.same("scan", new DctFilter().scan(0, 0, 0), 1);
        for (int i = 0; i < 64; i++) {
            for (int kind = 0; kind < 4; kind++) {
                check.same("table", new DctFilter().table(kind, i, -1), 16);
            }
        }
        DctFilter x = new DctFilter();
        check.refused("sample", IndexOutOfBoundsException.class, () -> x.sample(0, 0, 0));
        check.refused("coefficient", ArrayIndexOutOfBoundsException.class, () -> x.coefficient(0, 0));
        check.refused("exact", ArrayIndexOutOfBoundsException.class, () -> x.exact(0, 0));
        check.refused("told of a block", IndexOutOfBoundsException.class, () -> x.told(0, 0));
        check.refused("octet", ArrayIndexOutOfBoundsException.class, () -> x.octet(0));
        check.refused("encode", IllegalStateException.class, () -> x.encode(50));
        check.end();
    }
}
