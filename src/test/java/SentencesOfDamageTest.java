import java.util.Arrays;

/** "DAMAGED is a unit in which ..": a method for each phrase; and what is passed behind a scan. */
final class SentencesOfDamageTest {
    private static final Check CHECK = new Check();

    public static void main(String[] args) {
        bitsEndInFrame192();
        bitsEndInFrame194();
        bitsEndWhenRefined();
        aCodeIsNone();
        beyondTheLastOf192();
        beyondTheLastOf194();
        beyondTheLastWhenRefined();
        aMarkerIsNotAsItMustBe();
        coefficientsStayAsFarAsTheyWereRead();
        allItsBlocksAreDamaged();
        goesOnAtTheNextIntervalOfThatNumber();
        ifThereIsNoneAtNoUnit();
        anotherByteAbove0ComesFirst();
        unitsBetweenKeepWhatTheyHad();
        behindAScanAllIsPassed();
        behindAScanTheBytesEnd();
        CHECK.end();
    }

    private static Stream row(int marker, int blocks, int interval) {
        return Stream.begin().interval(interval).frame(marker, 8 * blocks, 8);
    }

    private static Stream whole(int blocks, int interval) {
        return row(192, blocks, interval).scan(1, 0, 63, 0, 0);
    }

    private static DctFilter read(String what, Stream stream, String damaged) {
        DctFilter x = stream.put(255, 217).given();
        CHECK.same(what + ", read", x.read(), 8);
        int sum = 0;
        for (int i = 0; i < damaged.length(); i++) {
            sum += damaged.charAt(i) - '0';
            CHECK.same(what + ", damage of " + i, x.told(i, 3), damaged.charAt(i) - '0');
        }
        CHECK.same(what + ", damaged", x.told(-1, 5), sum);
        return x;
    }

    private static void row(String what, DctFilter x, int block, int... due) {
        for (int i = 0; i < due.length; i++) {
            CHECK.same(what + ", coefficient " + i + " of " + block, x.coefficient(block, i), due[i]);
        }
    }

    /** The data's bytes, cut off behind each one: all that is whole is not damaged. */
    private static void cut(String what, Stream head, int[] data, int[] bytesOfBlocks) {
        for (int size = 0; size <= data.length; size++) {
            StringBuilder due = new StringBuilder();
            for (int bytes : bytesOfBlocks) {
                due.append(size < bytes ? '1' : '0');
            }
            read(what + " behind " + size, head.copy().put(Arrays.copyOf(data, size)), due.toString());
        }
    }

    /** "in which bits end": in codes, in bits of a first coefficient and of another. */
    private static void bitsEndInFrame192() {
        // 8 and 200; 8 and 100, then 24 (r 1, s 8) and 77; 0.
        cut("192", whole(2, 0), new int[] {8, 200, 0, 8, 100, 24, 77, 0}, new int[] {3, 8});
    }

    private static void bitsEndInFrame194() {
        cut("first", row(194, 2, 0).scan(1, 0, 0, 0, 1), new int[] {8, 200, 8, 3}, new int[] {2, 4});
        // 8 and 200, r = 0; 8 and 100; r = 8 and eight bits more.
        cut("others", row(194, 3, 0).scan(1, 1, 9, 0, 1), new int[] {8, 200, 0, 8, 100, 128, 7}, new int[] {3, 7, 7});
        cut("bits of first ones", Stream.begin().frame(194, 64, 8).scan(1, 0, 0, 1, 0), new int[] {77}, new int[] {1, 1, 1, 1, 1, 1, 1, 1});
    }

    private static void bitsEndWhenRefined() {
        Stream head = row(194, 2, 0).scan(1, 1, 9, 0, 1);
        // Seven that are not 0 in block 0, and one zero between them; eight of block 1.
        head.value(0, 1).value(0, 1).value(0, 1).value(1, 1).value(0, 1).value(0, 1).value(0, 1).symbol(0);
        head.value(0, 1).value(0, 1).value(0, 1).value(0, 1).value(0, 1).value(0, 1).value(0, 1).value(0, 1).symbol(0).fill();
        head.scan(1, 1, 9, 1, 0);
        // 1 for the zero between, a sign and three bits; then r = 0 and four bits: three bytes.
        Stream data = new Stream().symbol(1).bits(1, 1).bits(7, 3).symbol(0).bits(7, 3).bits(0, 1);
        // r = 0 and eight bits.
        data.symbol(0).bits(127, 8).fill();
        int[] bytes = new int[data.size()];
        for (int i = 0; i < bytes.length; i++) {
            bytes[i] = data.at(i);
        }
        for (int size = 0; size <= bytes.length; size++) {
            String due = size < 3 ? "11" : size < 5 ? "01" : "00";
            read("refined, behind " + size, head.copy().put(Arrays.copyOf(bytes, size)), due);
        }
    }

    /** "a code is none" */
    private static void aCodeIsNone() {
        row("class 0", read("class 0", whole(2, 0).put(8, 200, 0, 255, 0, 0, 0), "01"), 1, 0, 0);
        row("class 1", read("class 1", whole(2, 0).put(8, 200, 0, 8, 200, 255, 0, 0), "01"), 1, 400, 0);
        read("first by and by", row(194, 2, 0).scan(1, 0, 0, 0, 0).put(0, 255, 0), "01");
        read("others by and by", row(194, 2, 0).scan(1, 1, 5, 0, 0).put(0, 255, 0), "01");
        read("refined", row(194, 2, 0).scan(1, 1, 5, 1, 0).put(0, 255, 0), "01");
        Stream none = Stream.begin().segment(196, 19).codes(0).frame(192, 8, 8).scan(1, 0, 63, 0, 0).put(0, 0, 0, 0, 0);
        read("no codes at all", none, "1");
        Stream sixteen = Stream.begin().segment(196, 20).codes(0, 0, 0, 0, 0, 0, 0, 0, 0, 0, 0, 0, 0, 0, 0, 0, 1);
        read("a code of 16 bits", sixteen.copy().frame(192, 8, 8).scan(1, 0, 63, 0, 0).put(0, 0, 0), "0");
        read("not of 15 and a bit", sixteen.copy().frame(192, 8, 8).scan(1, 0, 63, 0, 0).put(0, 1, 0), "1");
    }

    /** "a coefficient beyond the last one is told" */
    private static void beyondTheLastOf192() {
        for (int r = 0; r < 16; r++) {
            // Three times sixteen are passed, so that coefficient 49 + r is told.
            Stream stream = whole(2, 0).put(0, 240, 240, 240, 16 * r + 8, 200, 0, 8, 9, 0);
            DctFilter x = r < 14 ? read("r " + r, stream, "00") : r == 14 ? read("r 14", whole(2, 0).put(0, 240, 240, 240, 0xe8, 200, 8, 9, 0), "00")
                    : read("r 15", stream, "11");
            CHECK.same("coefficient", x.coefficient(0, Math.min(63, 49 + r)), r < 15 ? 200 : 0);
        }
    }

    private static void beyondTheLastOf194() {
        for (int to = 2; to <= 63; to++) {
            for (int r = 0; r < 15; r++) {
                Stream stream = row(194, 2, 0).scan(1, 2, to, 0, 0).put(16 * r + 8, 200);
                if (2 + r < to) {
                    stream.put(0);
                }
                DctFilter x = read("to " + to + " r " + r, stream.put(0), 2 + r <= to ? "00" : "11");
                CHECK.same("coefficient", x.coefficient(0, 2 + r), 2 + r <= to ? 200 : 0);
            }
        }
    }

    private static void beyondTheLastWhenRefined() {
        for (int zeros = 1; zeros <= 5; zeros++) {
            for (int r = 0; r < 8; r++) {
                Stream stream = row(194, 2, 0).scan(1, 3, 2 + zeros, 6, 5).symbol(16 * r + 1).bits(0, 1);
                if (r + 1 < zeros) {
                    stream.symbol(0);
                }
                DctFilter x = read("zeros " + zeros + " r " + r, stream.symbol(0).fill(), r < zeros ? "00" : "11");
                CHECK.same("coefficient", x.coefficient(0, 3 + r), r < zeros ? -32 : 0);
            }
        }
        // Those that are not 0 are no zeros to be passed: 4 of 3 .. 5 is one, so r = 2 is too much.
        Stream head = row(194, 1, 0).scan(1, 4, 4, 0, 1).put(8, 200).scan(1, 3, 5, 1, 0);
        DctFilter x = read("one that is not 0", head.copy().symbol(17).bits(1, 1).bits(1, 1).fill(), "0");
        row("one that is not 0", x, 0, 0, 0, 0, 0, 401, 1);
        x = read("one zero too few", head.copy().symbol(33).bits(1, 1).bits(1, 1).fill(), "1");
        row("one zero too few", x, 0, 0, 0, 0, 0, 401, 0);
    }

    /** "or before which a marker is not as it must be" */
    private static void aMarkerIsNotAsItMustBe() {
        read("as it must be", whole(2, 1).put(8, 200, 0, 255, 208, 8, 9, 0), "00");
        read("none", whole(2, 1).put(8, 200, 0, 8, 9, 0), "01");
        for (int k = 1; k < 8; k++) {
            read("number " + k, whole(2, 1).put(8, 200, 0, 255, 208 + k, 8, 9, 0), "01");
        }
        read("another marker", whole(2, 1).put(8, 200, 0, 255, 1, 255, 208), "01");
        read("another with a length", whole(2, 1).put(8, 200, 0, 255, 224, 0, 4, 255, 208), "01");
        read("a byte before it", whole(2, 1).put(8, 200, 0, 0, 255, 208, 8, 9, 0), "01");
        read("255, 0 before it", whole(2, 1).put(8, 200, 0, 255, 0, 255, 208, 8, 9, 0), "01");
        read("no 255 before it", whole(2, 1).put(8, 200, 0, 208, 8, 9, 0), "01");
        read("the end", whole(2, 1).put(8, 200, 0), "01");
        for (int more = 1; more <= 3; more++) {
            read("more bytes 255", whole(2, 1).put(8, 200, 0).restart(0, more).put(8, 9, 0), "00");
            read("more bytes 255 and another number", whole(2, 1).put(8, 200, 0).restart(1, more), "01");
        }
        read("more bytes 255 and another marker", whole(2, 1).put(8, 200, 0, 255, 255, 1), "01");
        DctFilter x = read("the unit before is whole", whole(3, 2).put(8, 200, 0, 8, 9, 0, 8, 9, 0), "001");
        row("the unit before is whole", x, 0, 200);
        row("the unit is not read", x, 2, 0);
    }

    /** "Its coefficients stay as far as they were read" */
    private static void coefficientsStayAsFarAsTheyWereRead() {
        row("192", read("192", whole(1, 0).put(8, 200, 8, 150, 24, 130, 11), "1"), 0, 200, 150, 0, 130, 0);
        row("first", read("first", row(194, 2, 0).scan(1, 0, 0, 0, 2).put(8, 200, 12), "01"), 0, 800, 0);
        row("others", read("others", row(194, 1, 0).scan(1, 2, 9, 0, 2).put(8, 200, 24, 130, 255, 0), "1"), 0, 0, 0, 800, 0, 520, 0);
        Stream head = row(194, 1, 0).scan(1, 1, 3, 0, 1).put(8, 200, 8, 150, 8, 130).scan(1, 1, 9, 1, 0);
        row("a code and no bits", read("no bits", head.copy().put(0), "1"), 0, 0, 400, 300, 260, 0);
        // A code of 6 bits for r = 0, so that two bits are left in its byte.
        Stream codes = row(194, 1, 0).scan(1, 1, 3, 0, 1).put(8, 200, 8, 150, 8, 130);
        codes.put(255, 196, 0, 20, 0x10, 0, 0, 0, 0, 0, 1, 0, 0, 0, 0, 0, 0, 0, 0, 0, 0, 0);
        row("two bits of three", read("two bits", codes.scan(1, 1, 9, 1, 0).put(3), "1"), 0, 0, 401, 301, 260, 0);
    }

    /** "all its blocks are damaged" */
    private static void allItsBlocksAreDamaged() {
        Stream stream = Stream.begin().frameOfThree(192, 32, 16, 0x22, 0x21, 0x12).scanOfThree(0, 63, 0, 0);
        // Of the first unit's 4 + 2 + 2 blocks all but the last are whole.
        for (int i = 0; i < 7; i++) {
            stream.put(8, 128 + i, 0);
        }
        DctFilter x = stream.put(255, 217).given();
        CHECK.same("read", x.read(), 16);
        CHECK.same("all", x.told(-1, 5), 16);
        row("the first one was read", x, 0, 128);
        row("the next in its row", x, 1, 128 + 129);

        Stream marked = Stream.begin().interval(1).frameOfThree(192, 32, 16, 0x22, 0x21, 0x12).scanOfThree(0, 63, 0, 0);
        marked.put(0, 0, 0, 255, 208);
        for (int i = 0; i < 8; i++) {
            marked.put(0, 0);
        }
        x = marked.put(255, 217).given();
        CHECK.same("read", x.read(), 16);
        // Band 0 has four columns and two rows, band 1 four and one, band 2 two and two.
        String due = "11001100" + "1100" + "1010";
        for (int i = 0; i < 16; i++) {
            CHECK.same("block " + i, x.told(i, 3), due.charAt(i) - '0');
        }
    }

    /** "the scan goes on at the next interval that begins behind this unit and whose number before modulo 8 is that one's" */
    private static void goesOnAtTheNextIntervalOfThatNumber() {
        int units = 40;
        for (int interval = 1; interval <= 3; interval++) {
            for (int unit = 0; unit < units; unit += 3) {
                for (int number = 0; number < 8; number++) {
                    goesOn(units, interval, unit, number);
                }
            }
        }
    }

    private static void goesOn(int units, int interval, int unit, int number) {
        Stream stream = Stream.begin().interval(interval).frame(192, 64, 40).scan(1, 0, 63, 0, 0);
        for (int i = 0; i < unit; i++) {
            if (i > 0 && i % interval == 0) {
                stream.put(255, 208 + (i / interval - 1) % 8);
            }
            stream.put(0, 0);
        }
        if (unit > 0 && unit % interval == 0) {
            stream.put(255, 208 + (unit / interval - 1) % 8);
        }
        // No code, then the marker, and one unit behind it.
        stream.put(255, 0, 7, 255, 208 + number, 8, 222, 0);
        int next = -1;
        for (int i = units - 1; i > unit; i--) {
            if (i % interval == 0 && i / interval % 8 == (number + 1) % 8) {
                next = i;
            }
        }
        DctFilter x = stream.put(255, 217).given();
        String what = "interval " + interval + ", unit " + unit + ", number " + number;
        CHECK.same(what + ", read", x.read(), 40);
        for (int i = 0; i < units; i++) {
            CHECK.same(what + ", damage of " + i, x.told(i, 3), i < unit || i == next ? 0 : 1);
            CHECK.same(what + ", first of " + i, x.coefficient(i, 0), i == next ? 222 : 0);
        }
    }

    /** "or if there is none, at no unit" */
    private static void ifThereIsNoneAtNoUnit() {
        read("the interval before", whole(3, 1).put(0, 0, 255, 208, 255, 0, 255, 208, 8, 222, 0), "011");
        read("one beyond the last", whole(3, 1).put(0, 0, 255, 208, 255, 0, 255, 210, 8, 222, 0), "011");
        read("no interval", whole(3, 0).put(0, 0, 255, 0, 255, 208, 8, 222, 0, 255, 209, 0, 0), "011");
        read("a later marker is not looked at", whole(4, 1).put(0, 0, 255, 208, 255, 0, 255, 208, 0, 255, 209, 8, 222, 0), "0111");
    }

    /** "If a byte 255 with another byte above 0 comes first .. all units left are." */
    private static void anotherByteAbove0ComesFirst() {
        int[][] first = {{255, 1}, {255, 254, 0, 2}, {255, 2, 0, 2}, {255, 219, 0, 2}, {255, 220, 0, 4, 0, 1}, {255, 224, 0, 3, 7}, {255}};
        for (int[] bytes : first) {
            read("before the marker", whole(3, 1).put(255, 0, 7).put(bytes).put(255, 208), "111");
        }
        DctFilter x = read("255, 0 is passed", whole(3, 1).put(255, 0, 7, 255, 0, 7, 255, 0, 255, 208, 8, 222, 0), "101");
        row("255, 0 is passed", x, 1, 222);
        CHECK.same("bytes end: there is no end", whole(3, 1).put(255, 0, 7, 7).answer(), -1 - 35);
    }

    /** "units between are damaged": they are not read, and keep what earlier scans told. */
    private static void unitsBetweenKeepWhatTheyHad() {
        Stream stream = whole(4, 0).put(8, 200, 8, 150, 0, 0, 0, 0, 0, 0, 0).interval(1).scan(1, 0, 63, 0, 0);
        stream.put(8, 130, 0, 255, 208, 255, 0, 255, 210, 8, 131, 0);
        DctFilter x = read("units between", stream, "0110");
        row("block 0", x, 0, 130, 150);
        row("block 1", x, 1, 200, 0);
        row("block 2", x, 2, 200, 0);
        row("block 3", x, 3, 131, 0);
    }

    /** "Behind a scan all up to the next byte 255 that is followed by neither 0 nor 208 .. 215 .. is passed." */
    private static void behindAScanAllIsPassed() {
        int[][] passed = {{}, {0}, {1, 2, 3, 254}, {255, 0}, {255, 208}, {255, 215}, {255, 210, 255, 211, 7}, {255, 0, 255, 0, 217},
            {216, 217, 218}, {8, 222, 0}};
        for (int[] bytes : passed) {
            DctFilter x = read("at the end", whole(1, 0).put(8, 200, 0).put(bytes), "0");
            row("at the end", x, 0, 200, 0);
            x = read("before a marker", whole(1, 0).put(8, 200, 0).put(bytes).put(255, 1).put(255, 254, 0, 3, 9), "0");
            row("before a marker", x, 0, 200, 0);
            x = read("before a scan", whole(1, 0).put(8, 200, 0).put(bytes).scan(1, 0, 63, 0, 0).put(8, 201, 0), "0");
            row("before a scan", x, 0, 201, 0);
        }
        int at = whole(1, 0).put(8, 200, 0).size();
        CHECK.same("207 is not passed", whole(1, 0).put(8, 200, 0, 255, 207).put(255, 217).answer(), -1 - at - 1);
        CHECK.same("216 is not passed", whole(1, 0).put(8, 200, 0, 255, 216).put(255, 217).answer(), -1 - at - 1);
        CHECK.same("1 is not passed", whole(1, 0).put(8, 200, 0, 255, 1, 7).put(255, 217).answer(), -1 - at - 2);
        CHECK.same("208 behind that must be a marker", whole(1, 0).put(8, 200, 0, 255, 1, 255, 208, 7).put(255, 217).answer(), -1 - at - 4);
        CHECK.same("255 255 is not passed", whole(1, 0).put(8, 200, 0, 255, 255, 208, 7).put(255, 217).answer(), -1 - at - 3);
    }

    /** "(nor the bytes' end)" */
    private static void behindAScanTheBytesEnd() {
        int at = whole(1, 0).put(8, 200, 0).size();
        CHECK.same("255 at the end", whole(1, 0).put(8, 200, 0, 255).answer(), -1 - at - 1);
        CHECK.same("255 0 at the end", whole(1, 0).put(8, 200, 0, 255, 0).answer(), -1 - at - 2);
        CHECK.same("255 208 at the end", whole(1, 0).put(8, 200, 0, 255, 208).answer(), -1 - at - 2);
        CHECK.same("255 255 at the end", whole(1, 0).put(8, 200, 0, 255, 255).answer(), -1 - at - 2);
    }
}
