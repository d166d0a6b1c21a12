/** Promise 14: take. (Promise12EncodeTest takes a writing of more than 2,000 bytes.) */
final class Promise14TakeTest {
    public static void main(String[] args) {
        Check check = new Check();
        DctFilter x = new DctFilter();
        Stream.begin().frame(192, 8, 8).put(255, 217).giveTo(x);
        check.same("nothing written", x.take(), 0);
        check.same("the bytes before are gone", x.read(), -1);
        x.point(8, 2, 200);
        x.point(0, 0, 40);
        int count = x.encode(80);
        for (int i = 0; i < 10; i++) {
            x.add((byte) i);
        }
        check.same("take", x.take(), count);
        check.same("read", x.read(), 3);
        check.same("width", x.told(-1, 0), 9);
        check.same("sample", Math.abs(x.sample(0, 0, 0) - 40) < 20 ? 1 : 0, 1);
        check.same("read anew", x.read(), -1);
        check.same("take again", x.take(), count);
        check.same("take twice", x.take(), count);
        check.same("read again", x.read(), 3);
        x.take();
        x.add((byte) 255);
        check.same("what is behind the end", x.read(), 3);
        x.scan(0, 0, 0);
        x.scan(1, 63, 1);
        int other = x.encode(20);
        check.same("take of the last", x.take(), other);
        check.same("read of the last", x.read(), 3);
        check.same("its scans", x.told(-1, 4), 2);
        check.end();
    }
}
