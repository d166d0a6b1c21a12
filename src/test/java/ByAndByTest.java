/** Promises 3 and 5: scans of a frame 194. */
final class ByAndByTest {
    private static final Check CHECK = new Check();

    public static void main(String[] args) {
        firstCoefficients();
        others();
        blocksEndTogether();
        refining();
        refiningEnds();
        damage();
        CHECK.end();
    }

    private static Stream row(int blocks) {
        return Stream.begin().frame(194, 8 * blocks, 8);
    }

    private static DctFilter read(Stream stream, int damaged) {
        DctFilter x = stream.given();
        CHECK.same("read", x.read(), 8);
        CHECK.same("damaged", x.told(-1, 5), damaged);
        return x;
    }

    private static void block(String what, DctFilter x, int block, int... due) {
        for (int i = 0; i < due.length; i++) {
            CHECK.same(what + ", coefficient " + i, x.coefficient(block, i), due[i]);
        }
    }

    private static void firstCoefficients() {
        Stream stream = row(3).scan(1, 0, 0, 0, 2).value(0, 5).value(0, -9).value(0, 0).fill();
        stream.scan(1, 0, 0, 2, 1).bits(1, 1).bits(0, 1).bits(1, 1).fill();
        stream.scan(1, 0, 0, 1, 0).bits(0, 1).bits(1, 1).bits(1, 1).end();
        DctFilter x = read(stream, 0);
        block("first", x, 0, 22, 0);
        block("first", x, 1, -15, 0);
        block("first", x, 2, -13, 0);
        Stream again = row(1).scan(1, 0, 0, 0, 0).value(0, 7).fill().scan(1, 0, 0, 2, 1).bits(1, 1).end();
        block("bits are joined", read(again, 0), 0, 7);
    }

    private static void others() {
        Stream stream = row(2).scan(1, 2, 5, 0, 3);
        stream.value(1, 5).value(0, -2).value(0, 1).value(3, 1023);
        DctFilter x = read(stream.end(), 0);
        block("others", x, 0, 0, 0, 0, 40, -16, 8, 0);
        block("others", x, 1, 0, 0, 0, 0, 0, 8184, 0);
        block("beyond the last one", read(row(1).scan(1, 2, 5, 0, 0).value(4, 1).end(), 1), 0, 0, 0, 0, 0, 0, 0, 0);
        block("sixteen beyond", read(row(2).scan(1, 2, 5, 0, 0).symbol(240).value(0, 1).symbol(0).end(), 0), 1, 0, 0, 1);
    }

    private static void blocksEndTogether() {
        Stream stream = row(6).scan(1, 1, 63, 0, 0);
        stream.value(0, 3).symbol(16).bits(1, 1).value(0, 4).symbol(0).value(0, 5).symbol(32).bits(3, 2);
        DctFilter x = read(stream.end(), 0);
        int[] due = {3, 0, 0, 4, 5, 0};
        for (int i = 0; i < due.length; i++) {
            block("ends of block " + i, x, i, 0, due[i], 0);
        }
        Stream many = row(2).scan(1, 1, 63, 0, 0).symbol(14 * 16).bits(16383, 14).end();
        read(many, 0);
        Stream next = row(2).scan(1, 1, 63, 0, 0).symbol(32).bits(0, 2).fill();
        next.scan(1, 1, 63, 0, 0).value(0, 9).symbol(0).symbol(0);
        block("not beyond the scan", read(next.end(), 0), 0, 0, 9);
        Stream marked = Stream.begin().interval(2).frame(194, 32, 8).scan(1, 1, 63, 0, 0);
        marked.symbol(32).bits(0, 2).restart(0).value(0, 9).symbol(0).value(0, 8).symbol(0);
        x = read(marked.end(), 0);
        block("not beyond a marker", x, 2, 0, 9);
        block("not beyond a marker", x, 3, 0, 8);
        read(row(2).scan(1, 1, 63, 0, 0).symbol(0).symbol(48).end(), 1);
    }

    private static void refining() {
        Stream stream = row(1).scan(1, 1, 63, 0, 1);
        stream.value(0, 3).value(1, -2).value(0, 1).symbol(0).fill();
        // 0 6 0 -4 2 0 0 ..: the first zero behind 6 becomes -1, then one zero is passed, then 1.
        stream.scan(1, 1, 63, 1, 0);
        stream.symbol(1).bits(0, 1).bits(1, 1);
        stream.symbol(17).bits(1, 1).bits(1, 1).bits(0, 1);
        stream.symbol(0).end();
        block("refined", read(stream, 0), 0, 0, 7, -1, -5, 2, 0, 1, 0);

        Stream bit = row(1).scan(1, 1, 63, 0, 0).value(0, 3).value(0, -2).value(0, 5).symbol(0).fill();
        bit.scan(1, 1, 63, 2, 1).symbol(0).bits(7, 3).end();
        block("one that has the bit stays", read(bit, 0), 0, 0, 3, -2, 7);

        Stream sixteen = row(1).scan(1, 1, 63, 0, 1).value(0, 1).value(9, 1).symbol(0).fill();
        // 240 passes sixteen zeros (2 .. 10, 12 .. 18), and both bits come behind it.
        sixteen.scan(1, 1, 63, 1, 0).symbol(240).bits(2, 2).symbol(1).bits(1, 1).symbol(0).end();
        DctFilter x = read(sixteen, 0);
        CHECK.same("coefficient 1", x.coefficient(0, 1), 3);
        CHECK.same("coefficient 11", x.coefficient(0, 11), 2);
        CHECK.same("coefficient 18", x.coefficient(0, 18), 0);
        CHECK.same("coefficient 19", x.coefficient(0, 19), 1);
    }

    private static void refiningEnds() {
        Stream stream = row(4).scan(1, 1, 3, 0, 1);
        for (int i = 0; i < 4; i++) {
            stream.value(1, i + 1).symbol(0);
        }
        stream.fill().scan(1, 1, 3, 1, 0);
        stream.symbol(1).bits(1, 1).symbol(16).bits(1, 1);
        stream.bits(1, 1).bits(0, 1).bits(1, 1);
        stream.symbol(17).bits(0, 1).bits(1, 1);
        DctFilter x = read(stream.end(), 0);
        block("ends with bits", x, 0, 0, 1, 3, 0);
        block("ends with bits", x, 1, 0, 0, 4, 0);
        block("ends with bits", x, 2, 0, 0, 7, 0);
        block("goes on", x, 3, 0, 0, 9, -1);
    }

    private static void damage() {
        read(row(1).scan(1, 1, 63, 1, 0).symbol(2).end(), 1);
        read(row(1).scan(1, 1, 63, 1, 0).symbol(1).end(), 1);
        read(row(1).scan(1, 1, 1, 0, 1).value(0, 1).fill().scan(1, 1, 1, 1, 0).symbol(1).bits(1, 1).bits(1, 1).end(), 1);
        read(row(1).scan(1, 1, 1, 0, 1).value(0, 1).fill().scan(1, 1, 1, 1, 0).symbol(240).bits(1, 1).end(), 0);
        Stream stream = Stream.begin().interval(1).frame(194, 24, 8).scan(1, 1, 63, 0, 0);
        stream.symbol(32).bits(0, 2).restart(0).symbol(16).restart(1).value(0, 6).symbol(0);
        DctFilter x = read(stream.end(), 1);
        CHECK.same("block 1", x.told(1, 3), 1);
        CHECK.same("block 2", x.coefficient(2, 1), 6);
        read(row(2).scan(1, 0, 0, 1, 0).end(), 2);
    }
}
