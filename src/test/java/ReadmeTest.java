/** The calls of README.md's examples, with what they answer. */
final class ReadmeTest {
    private static final Check CHECK = new Check();

    public static void main(String[] args) {
        toWrite();
        toRead();
        CHECK.end();
    }

    private static void toWrite() {
        DctFilter filter = new DctFilter();
        CHECK.same("point", filter.point(0, 0, 200), 0);
        CHECK.same("table", filter.table(0, 0, 8), 16);
        CHECK.same("restart", filter.restart(2), 0);
        CHECK.same("first coefficients", filter.scan(0, 0, 1), 1);
        CHECK.same("all others", filter.scan(1, 63, 0), 2);
        CHECK.same("the last bit", filter.scan(0, 0, 0), 3);
        int count = filter.encode(75);
        CHECK.same("told", filter.told(-1, 6), count);
        CHECK.same("octet", filter.octet(0), -1);
        CHECK.same("take", filter.take(), count);
        CHECK.same("read", filter.read(), 1);
        CHECK.same("scans", filter.told(-1, 4), 3);
        CHECK.same("red", filter.sample(0, 0, 3), 200);
    }

    private static void toRead() {
        // Two blocks, the second of which is cut off.
        DctFilter filter = Stream.begin().frame(192, 16, 8).scan(1, 0, 63, 0, 0).put(8, 200, 0, 255, 217).given();
        CHECK.same("rows", filter.read(), 8);
        CHECK.same("columns", filter.told(-1, 0), 16);
        CHECK.same("red", filter.sample(0, 0, 3), 255);
        CHECK.same("damaged", filter.told(-1, 5), 1);
        CHECK.same("which one", filter.told(1, 3), 1);
        CHECK.same("coefficient", filter.coefficient(0, 0), 200);
        CHECK.same("exact", filter.exact(0, 9), 16L * 200 * 2896 * 2896);
    }
}
