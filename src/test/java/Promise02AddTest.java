/** Promise 2: add. */
final class Promise02AddTest {
    public static void main(String[] args) {
        Check check = new Check();
        DctFilter x = new DctFilter();
        Stream good = Stream.begin().frame(192, 8, 8).scan(1, 0, 63, 0, 0).flat(5).end();
        good.giveTo(x);
        check.same("read in the order of adding", x.read(), 8);
        check.same("first coefficient", x.coefficient(0, 0), 5);

        good.giveTo(x);
        for (int i = good.size(); i < 2000; i++) {
            x.add((byte) 77);
        }
        for (int i = 0; i < 3; i++) {
            check.refused("add of one more", UnsupportedOperationException.class, () -> {
                x.add((byte) 1);
                return 0;
            });
        }
        check.same("what is behind the end is not looked at", x.read(), 8);
        x.add((byte) 255);
        x.add((byte) 216);
        check.same("bytes were taken", x.read(), -3);

        for (int i = 0; i < 2000; i++) {
            x.add((byte) (i == 0 ? 255 : i == 1 ? 216 : 255));
        }
        check.refused("full again", UnsupportedOperationException.class, () -> {
            x.add((byte) 217);
            return 0;
        });
        check.same("2,000 bytes and no more are there", x.read(), -2001);

        x.point(0, 0, 1);
        int count = x.encode(50);
        check.same("take", x.take(), count);
        for (int i = count; i < 2000; i++) {
            x.add((byte) 0);
        }
        check.refused("full behind take", UnsupportedOperationException.class, () -> {
            x.add((byte) 0);
            return 0;
        });
        check.same("read behind take", x.read(), 1);
        check.end();
    }
}
