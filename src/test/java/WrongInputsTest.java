import java.util.Random;

/** All promises: whatever is called in whatever order, only the document's exceptions come, and nothing changes with them. */
final class WrongInputsTest {
    private static final int[] EDGES = {Integer.MIN_VALUE, -2, -1, 0, 1, 2, 3, 4, 5, 6, 7, 31, 32, 50, 63, 64, 99, 100, 101, 191, 192,
        255, 256, 1 << 26, Integer.MAX_VALUE};
    private static final Random RANDOM = new Random(99);
    private static final Check CHECK = new Check();

    public static void main(String[] args) {
        for (int run = 0; run < 3000; run++) {
            DctFilter x = new DctFilter();
            for (int call = 0; call < 512; call++) {
                callByChance(x);
            }
        }
        CHECK.end();
    }

    private static int edge() {
        return EDGES[RANDOM.nextInt(EDGES.length)];
    }

    private static int likely(int bound) {
        return RANDOM.nextInt(4) == 0 ? edge() : RANDOM.nextInt(bound);
    }

    private static void callByChance(DctFilter x) {
        int a = likely(32);
        int b = likely(32);
        int c = likely(6);
        switch (RANDOM.nextInt(15)) {
            case 0: only("add", null, UnsupportedOperationException.class, () -> give(x)); break;
            case 1: only("read", null, null, () -> x.read()); break;
            case 2: only("sample", IndexOutOfBoundsException.class, null, () -> x.sample(a, b, c)); break;
            case 3: only("coefficient", ArrayIndexOutOfBoundsException.class, null, () -> x.coefficient(a, b)); break;
            case 4: only("exact", ArrayIndexOutOfBoundsException.class, null, () -> x.exact(a, b)); break;
            case 5: only("told", IndexOutOfBoundsException.class, null, () -> x.told(a, c)); break;
            case 6: only("table", IndexOutOfBoundsException.class, IllegalArgumentException.class, () -> x.table(c, a, b)); break;
            case 7: only("point", IndexOutOfBoundsException.class, IllegalArgumentException.class, () -> x.point(a, b, likely(256))); break;
            case 8: only("scan", null, null, () -> x.scan(c < 3 ? 0 : a, c < 3 ? 0 : c == 3 ? 63 : b, RANDOM.nextInt(5))); break;
            case 9: only("restart", IllegalArgumentException.class, null, () -> x.restart(a)); break;
            case 10: only("encode", IllegalArgumentException.class, IllegalStateException.class, () -> x.encode(a)); break;
            case 11: only("octet", ArrayIndexOutOfBoundsException.class, null, () -> x.octet(a)); break;
            case 12: only("take", null, null, () -> x.take()); break;
            case 13: only("told of all", IndexOutOfBoundsException.class, null, () -> x.told(-1, c)); break;
            default: only("read of what was written", null, UnsupportedOperationException.class, () -> damaged(x)); break;
        }
    }

    /** Some bytes that may be a picture. */
    private static long give(DctFilter x) {
        Stream stream = Stream.begin().interval(RANDOM.nextInt(3));
        boolean whole = RANDOM.nextBoolean();
        stream.frameOfThree(whole ? 192 : 194, 1 + RANDOM.nextInt(64), 1 + RANDOM.nextInt(64), 17 + RANDOM.nextInt(2), 17, 33);
        for (int scans = RANDOM.nextInt(3); scans >= 0; scans--) {
            boolean first = RANDOM.nextBoolean();
            int high = whole ? 0 : RANDOM.nextInt(2);
            stream.scan(1 + RANDOM.nextInt(3), whole || first ? 0 : 1, !whole && first ? 0 : 63, high, 0);
            for (int i = RANDOM.nextInt(60); i >= 0; i--) {
                stream.bits(RANDOM.nextInt(12) * (RANDOM.nextInt(17) + 1), 8);
                if (RANDOM.nextInt(20) == 0) {
                    stream.restart(RANDOM.nextInt(3));
                }
            }
            stream.fill();
        }
        stream.end();
        if (RANDOM.nextBoolean()) {
            stream.change(RANDOM.nextInt(stream.size()), RANDOM.nextInt(256));
        }
        stream.giveTo(x);
        return 0;
    }

    private static long damaged(DctFilter x) {
        x.take();
        for (int i = RANDOM.nextInt(3); i > 0; i--) {
            x.add((byte) RANDOM.nextInt(256));
        }
        return x.read();
    }

    private static void only(String what, Class<?> one, Class<?> other, Check.Call call) {
        String got = "";
        try {
            call.run();
        } catch (RuntimeException e) {
            boolean fits = (e.getClass() == one || e.getClass() == other) && Check.isThrownByHand(e);
            got = fits ? "" : what + " threw " + e;
        }
        CHECK.same(got, got.isEmpty() ? 0 : 1, 0);
    }
}
