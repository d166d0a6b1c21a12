/** Promise 3: read. (Faults, damage and scans by and by have tests of their own.) */
final class Promise03ReadTest {
    private static final Check CHECK = new Check();

    public static void main(String[] args) {
        answers();
        bytesAreTaken();
        tablesOfAReading();
        codesAndIntervalBeginAnew();
        heightThatIsToldBehind();
        markersThatArePassed();
        scansOfOneBandKeepWhatOthersRead();
        CHECK.end();
    }

    private static void answers() {
        CHECK.same("no bytes", new DctFilter().read(), -1);
        CHECK.same("without a frame", Stream.begin().put(255, 217).answer(), 0);
        CHECK.same("frame without scans", Stream.begin().frame(192, 3, 64).end().answer(), 64);
        CHECK.same("rows", Stream.begin().frame(194, 64, 1).end().answer(), 1);
        DctFilter x = Stream.begin().put(255, 217).given();
        x.read();
        CHECK.same("no width", x.told(-1, 0), 0);
        CHECK.refused("no sample", IndexOutOfBoundsException.class, () -> x.sample(0, 0, 3));
    }

    private static void bytesAreTaken() {
        DctFilter x = Stream.begin().frame(192, 8, 8).scan(1, 0, 63, 0, 0).flat(3).end().given();
        CHECK.same("read", x.read(), 8);
        CHECK.same("read again", x.read(), -1);
        CHECK.same("no picture", x.told(-1, 3), 0);
        CHECK.refused("no block", ArrayIndexOutOfBoundsException.class, () -> x.coefficient(0, 0));
        x.add((byte) 1);
        CHECK.same("a fault", x.read(), -1);
        CHECK.same("bytes are taken with a fault too", x.read(), -1);
        Stream.begin().frame(192, 8, 8).put(255, 217).giveTo(x);
        CHECK.same("only new bytes", x.read(), 8);
        CHECK.same("new coefficients", x.coefficient(0, 0), 0);
    }

    private static void tablesOfAReading() {
        DctFilter x = new DctFilter();
        x.table(0, 0, 3);
        Stream plain = Stream.begin().frame(192, 8, 8).scan(1, 0, 63, 0, 0).flat(1).end();
        plain.giveTo(x);
        x.read();
        CHECK.same("the tables before", x.exact(0, 0), 3L * 2896 * 2896);
        x.table(0, 0, 9);
        CHECK.same("not table() behind", x.exact(0, 0), 3L * 2896 * 2896);

        Stream told = plain.copy();
        Stream withTables = Stream.begin();
        withTables.frame(192, 8, 8).scan(1, 0, 63, 0, 0).flat(1).fill();
        withTables.put(255, 219, 0, 132, 1);
        for (int i = 0; i < 64; i++) {
            withTables.put(2);
        }
        withTables.put(0, 250);
        for (int i = 1; i < 64; i++) {
            withTables.put(i);
        }
        withTables.end().giveTo(x);
        CHECK.same("read with tables", x.read(), 8);
        CHECK.same("the tables at the end", x.exact(0, 0), 250L * 2896 * 2896);
        CHECK.same("table() stays", x.table(0, 0, -1), 9);
        told.giveTo(x);
        x.read();
        CHECK.same("they held for that reading", x.exact(0, 0), 9L * 2896 * 2896);
    }

    private static void codesAndIntervalBeginAnew() {
        DctFilter x = new DctFilter();
        Stream stream = Stream.begin().interval(1).frame(192, 16, 8);
        stream.put(255, 196, 0, 39, 0, 1, 1);
        for (int i = 3; i <= 16; i++) {
            stream.put(0);
        }
        stream.put(4, 3, 16, 1);
        for (int i = 2; i <= 16; i++) {
            stream.put(0);
        }
        stream.put(0).scan(1, 0, 63, 0, 0);
        stream.bits(0, 1).bits(9, 4).bits(0, 1).restart(0).bits(2, 2).bits(3, 3).bits(0, 1).end();
        stream.giveTo(x);
        CHECK.same("read", x.read(), 8);
        CHECK.same("a code of one bit", x.coefficient(0, 0), 9);
        CHECK.same("a code of two bits", x.coefficient(1, 0), -4);
        CHECK.same("whole", x.told(-1, 5), 0);
        Stream.begin().frame(192, 16, 8).scan(1, 0, 63, 0, 0).flat(7).flat(2).end().giveTo(x);
        x.read();
        CHECK.same("first codes again", x.coefficient(0, 0), 7);
        CHECK.same("no interval again", x.coefficient(1, 0), 9);
        CHECK.same("whole again", x.told(-1, 5), 0);
    }

    private static void heightThatIsToldBehind() {
        Stream stream = Stream.begin().frame(192, 8, 0).scan(1, 0, 63, 0, 0).flat(1).flat(1).fill();
        CHECK.same("told by 220", stream.copy().put(255, 220, 0, 4, 0, 9).end().answer(), 9);
        CHECK.same("told behind the end", stream.copy().end().put(7, 255, 220, 0, 4, 0, 16).answer(), 16);
        CHECK.same("told within another", stream.copy().put(255, 224, 0, 9, 5, 255, 220, 0, 4, 0, 12).end().answer(), 12);
        Stream twice = stream.copy().put(255, 220, 0, 4, 0, 9).put(255, 220, 0, 4, 0, 3).end();
        CHECK.same("the first one", twice.answer(), 9);
        Stream other = Stream.begin().put(255, 220, 0, 4, 0, 33).frame(192, 8, 5).put(255, 220, 0, 4, 0, 7);
        CHECK.same("not with a height", other.end().answer(), 5);
    }

    private static void markersThatArePassed() {
        Stream stream = Stream.begin();
        stream.put(255, 255, 255, 224, 0, 4, 9, 9).put(255, 1).put(255, 208).put(255, 215);
        stream.put(255, 254, 0, 2).put(255, 200, 0, 3, 0).put(255, 204, 0, 2).put(255, 2, 0, 2).put(255, 219, 0, 2);
        stream.put(255, 196, 0, 2).frame(192, 8, 8).scan(1, 0, 63, 0, 0).flat(4).fill();
        stream.put(0, 1, 2, 255, 0, 255, 210, 9, 255, 255, 255, 217);
        DctFilter x = stream.given();
        CHECK.same("read", x.read(), 8);
        CHECK.same("coefficient", x.coefficient(0, 0), 4);
        CHECK.same("whole", x.told(-1, 5), 0);
    }

    private static void scansOfOneBandKeepWhatOthersRead() {
        Stream stream = Stream.begin().frameOfThree(192, 20, 9, 34, 17, 17);
        stream.scan(2, 0, 63, 0, 0).flat(3).flat(0).fill();
        stream.scan(1, 0, 63, 0, 0);
        for (int i = 0; i < 6; i++) {
            stream.value(0, 10).value(0, 1 + i).symbol(0);
        }
        stream.fill().scan(1, 0, 63, 0, 0);
        for (int i = 0; i < 6; i++) {
            stream.flat(1);
        }
        DctFilter x = stream.end().given();
        CHECK.same("read", x.read(), 9);
        CHECK.same("scans", x.told(-1, 4), 3);
        CHECK.same("blocks", x.told(-1, 3), 8 + 2 + 2);
        CHECK.same("whole", x.told(-1, 5), 0);
        int[] blocks = {0, 1, 2, 4, 5, 6};
        for (int i = 0; i < 6; i++) {
            CHECK.same("first of " + blocks[i], x.coefficient(blocks[i], 0), 1 + i);
            CHECK.same("second of " + blocks[i], x.coefficient(blocks[i], 1), 1 + i);
        }
        CHECK.same("a block that is not needed", x.coefficient(3, 0), 0);
        CHECK.same("band 2", x.coefficient(8, 0), 3);
        CHECK.same("band 2, next", x.coefficient(9, 0), 3);
    }
}
