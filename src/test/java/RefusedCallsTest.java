import java.util.ArrayList;
import java.util.List;
import java.util.Random;

/** "A call that throws changes nothing": of two objects with the same calls one gets refused calls between them. */
final class RefusedCallsTest {
    private static final Check CHECK = new Check();
    private static final int[] EDGES = {Integer.MIN_VALUE, -257, -256, -2, 256, 257, 300, 65536, 1 << 26, Integer.MAX_VALUE};

    private final Random random;
    private final DctFilter plain = new DctFilter();
    private final DctFilter disturbed = new DctFilter();
    private boolean pointWasPut;

    private RefusedCallsTest(int seed) {
        random = new Random(seed);
    }

    public static void main(String[] args) {
        for (int seed = 0; seed < 1500; seed++) {
            new RefusedCallsTest(seed).run();
        }
        addOfTooManyChangesNothing();
        CHECK.end();
    }

    /** A hundred calls, and then some that look at what there is. */
    private void run() {
        for (int call = 0; call < 100; call++) {
            refusedCall();
            answeredCall();
        }
        refusedCall();
        for (int what = 0; what < 7; what++) {
            same("told", plain.told(-1, what), disturbed.told(-1, what));
        }
        for (int i = 0; i < Math.min(60, plain.told(-1, 6)); i++) {
            int at = i * 7 % plain.told(-1, 6);
            same("octet", plain.octet(at), disturbed.octet(at));
        }
        for (int i = 0; i < 64; i++) {
            same("table", plain.table(i % 4, i, -1), disturbed.table(i % 4, i, -1));
        }
        same("restart", plain.restart(5), disturbed.restart(5));
        same("read", plain.read(), disturbed.read());
        if (pointWasPut) {
            same("encode", plain.encode(70), disturbed.encode(70));
            for (int i = 0; i < Math.min(100, plain.told(-1, 6)); i++) {
                same("octet", plain.octet(plain.told(-1, 6) - 1 - i), disturbed.octet(plain.told(-1, 6) - 1 - i));
            }
        }
    }

    private static void same(String what, long one, long other) {
        CHECK.same(what + " of the one that was disturbed", other, one);
    }

    private void answeredCall() {
        int a = random.nextInt(32);
        int b = random.nextInt(32);
        switch (random.nextInt(11)) {
            case 0: case 1: give(); break;
            case 2: same("read", plain.read(), disturbed.read()); break;
            case 3: same("table", plain.table(a % 4, b, 1 + 8 * a), disturbed.table(a % 4, b, 1 + 8 * a)); break;
            case 4: case 5:
                pointWasPut = true;
                same("point", plain.point(a, b, 8 * b), disturbed.point(a, b, 8 * b));
                break;
            case 6: same("scan", plain.scan(a % 3, a % 3, b % 4), disturbed.scan(a % 3, a % 3, b % 4)); break;
            case 7: same("restart", plain.restart(a), disturbed.restart(a)); break;
            case 8:
                if (pointWasPut) {
                    same("encode", plain.encode(1 + a), disturbed.encode(1 + a));
                }
                break;
            case 9: same("take", plain.take(), disturbed.take()); break;
            default: lookAtTheBlocks(); break;
        }
    }

    private void give() {
        Stream stream = Stream.begin().frame(192, 1 + random.nextInt(64), 1 + random.nextInt(16)).scan(1, 0, 63, 0, 0);
        if (random.nextBoolean()) {
            stream = new Stream();
        }
        for (int i = 0; i < stream.size(); i++) {
            plain.add((byte) stream.at(i));
            disturbed.add((byte) stream.at(i));
        }
    }

    private void lookAtTheBlocks() {
        int blocks = plain.told(-1, 3);
        same("blocks", blocks, disturbed.told(-1, 3));
        if (blocks > 0) {
            int block = random.nextInt(blocks);
            int i = random.nextInt(64);
            same("coefficient", plain.coefficient(block, i), disturbed.coefficient(block, i));
            same("exact", plain.exact(block, i), disturbed.exact(block, i));
            same("damage", plain.told(block, 3), disturbed.told(block, 3));
            same("sample", plain.sample(0, 0, 0), disturbed.sample(0, 0, 0));
        }
    }

    private int edge() {
        return EDGES[random.nextInt(EDGES.length)];
    }

    /** A call that is refused in any state. */
    private void refusedCall() {
        DctFilter x = disturbed;
        int edge = edge();
        int a = random.nextInt(32);
        switch (random.nextInt(12)) {
            case 0: refused("sample", IndexOutOfBoundsException.class, () -> x.sample(edge, 0, 0)); break;
            case 1: refused("coefficient", ArrayIndexOutOfBoundsException.class, () -> x.coefficient(0, edge)); break;
            case 2: refused("exact", ArrayIndexOutOfBoundsException.class, () -> x.exact(edge, a)); break;
            case 3: refused("told", IndexOutOfBoundsException.class, () -> x.told(edge, a)); break;
            case 4: refused("table", IndexOutOfBoundsException.class, () -> x.table(edge, a, 1 + a)); break;
            case 5: refused("table", IllegalArgumentException.class, () -> x.table(a % 4, a, edge)); break;
            case 6: refused("point", IndexOutOfBoundsException.class, () -> x.point(a, edge, a)); break;
            case 7: refused("point", IllegalArgumentException.class, () -> x.point(31, 31, edge)); break;
            case 8: refused("restart", IllegalArgumentException.class, () -> x.restart(edge)); break;
            case 9: refused("encode", IllegalArgumentException.class, () -> x.encode(edge)); break;
            case 10: refused("octet", ArrayIndexOutOfBoundsException.class, () -> x.octet(edge == 256 || edge == 257 || edge == 300 ? -1 : edge)); break;
            default:
                CHECK.same("scan", x.scan(edge, a, a % 4), 0);
                CHECK.same("scan", x.scan(0, 0, edge), 0);
                if (!pointWasPut) {
                    refused("encode", IllegalStateException.class, () -> x.encode(1 + a));
                }
                break;
        }
    }

    private static void refused(String what, Class<? extends RuntimeException> due, Check.Call call) {
        CHECK.refused(what, due, call);
    }

    /** The byte that is refused is not there, and those before it are. */
    private static void addOfTooManyChangesNothing() {
        List<Integer> bytes = new ArrayList<>(List.of(255, 216, 255, 224, 7, 202));
        while (bytes.size() < 1998) {
            bytes.add(bytes.size() % 251);
        }
        bytes.add(255);
        bytes.add(217);
        DctFilter x = new DctFilter();
        for (int b : bytes) {
            x.add((byte) b);
        }
        for (int b = 0; b < 256; b++) {
            int more = b;
            refused("add", UnsupportedOperationException.class, () -> {
                x.add((byte) more);
                return 0;
            });
        }
        CHECK.same("read", x.read(), 0);
    }
}
