/** What is said of DATA, of s, of blocks that end together, of DAMAGED units and of what is behind a scan. */
final class SentencesOfDataTest {
    private static final Check CHECK = new Check();

    public static void main(String[] args) {
        bitsFromAByteHighestOn();
        anotherByteEndsThem();
        intervalsOnlyIfThereAreMore();
        theRestOfTheByteIsPassed();
        markersAreNumberedModulo8();
        markersMayHaveMoreBytes255();
        firstDifferencesBeginAnew();
        sBits();
        sOfFirstCoefficients();
        sOfOthers();
        sWhenRefined();
        sixteenArePassed();
        firstBitsAreJoined();
        endsAreToldBy2ToTheRAndMore();
        endsNotBeyondAMarker();
        endsNotBeyondADamagedUnit();
        endsNotBeyondTheScan();
        endsMoreThanThereAre();
        CHECK.end();
    }

    private static Stream row(int marker, int blocks, int interval) {
        return Stream.begin().interval(interval).frame(marker, 8 * blocks, 8);
    }

    private static Stream whole(int blocks, int interval) {
        return row(192, blocks, interval).scan(1, 0, 63, 0, 0);
    }

    private static DctFilter read(String what, Stream stream, int damaged) {
        DctFilter x = stream.end().given();
        CHECK.same(what + ", read", x.read(), 8);
        CHECK.same(what + ", damaged", x.told(-1, 5), damaged);
        return x;
    }

    private static void first(String what, DctFilter x, int... due) {
        for (int i = 0; i < due.length; i++) {
            CHECK.same(what + ", first of " + i, x.coefficient(i, 0), due[i]);
        }
    }

    /** "DATA are bits from a byte's highest on; behind a byte 255 a byte 0 is passed" */
    private static void bitsFromAByteHighestOn() {
        // Symbol 8, eight bits 1 (255), symbol 0: bytes 8, 255, 0 (passed), 0.
        first("255", read("255", whole(1, 0).put(8, 255, 0, 0), 0), 255);
        // Symbol 7 and seven bits 1, then symbol 0, and a bit more that is passed.
        first("127", read("127", whole(1, 0).put(7, 254, 0), 0), 127);
        first("-127", read("-127", whole(1, 0).put(7, 0, 1), 0), -127);
        // Two bytes 255, each with its 0: symbol 0, then 11 in 11 bits ...
        first("2047", read("2047", whole(1, 0).put(11, 255, 0, 224, 0), 0), 2047);
        DctFilter x = read("three 255", whole(1, 0).put(11, 255, 0, 224, 0x5f, 255, 0, 255, 0, 128, 0), 1);
        first("three 255", x, 2047);
    }

    /** "another byte there ends them" */
    private static void anotherByteEndsThem() {
        for (int b = 1; b < 255; b++) {
            boolean alone = b == 1 || b >= 208 && b <= 215;
            boolean refused = b >= 192 && b <= 207 && b != 196 && b != 200 && b != 204 || b == 216 || b == 218 || b == 221;
            if (refused) {
                continue;
            }
            Stream stream = whole(2, 0).put(8, 200, 0, 8, 255, b);
            if (!alone && b != 217) {
                stream.put(0, 2);
            }
            first("255 and " + b, read("255 and " + b, stream, 1), 200, 0);
        }
        first("255 and 255", read("255 and 255", whole(2, 0).put(8, 200, 0, 8, 255, 255, 1), 1), 200, 0);
    }

    /** "With an interval n > 0 behind each n units, if there are more" */
    private static void intervalsOnlyIfThereAreMore() {
        for (int n = 1; n <= 8; n++) {
            Stream stream = whole(4, n);
            for (int i = 0; i < 4; i++) {
                if (i > 0 && i % n == 0) {
                    stream.restart(i / n - 1);
                }
                stream.flat(10 + i);
            }
            int[] due = new int[4];
            for (int i = 0; i < 4; i++) {
                due[i] = 10 + i + (i % n == 0 ? 0 : due[i - 1]);
            }
            first("interval " + n, read("interval " + n, stream, 0), due);
        }
        read("65535", whole(4, 65535).flat(1).flat(1).flat(1).flat(1), 0);
        read("one behind the last unit is passed", whole(2, 1).flat(1).restart(0).flat(1).restart(1), 0);
    }

    /** "the rest of the byte is passed" */
    private static void theRestOfTheByteIsPassed() {
        for (int bits = 0; bits < 8; bits++) {
            Stream stream = whole(2, 1).symbol(bits).bits(1 << bits >> 1, bits).symbol(0);
            stream.bits(0, (8 - bits) % 8).put(255, 208).flat(3);
            first("rest of " + bits, read("rest of " + bits, stream, 0), 1 << bits >> 1, 3);
        }
        // A whole byte is not passed: the marker must be there.
        read("a byte before it", whole(2, 1).flat(3).fill().put(255, 0, 255, 208).flat(3), 1);
    }

    /** "a marker 208 + k must be there, k being how many such came before, modulo 8" */
    private static void markersAreNumberedModulo8() {
        Stream stream = Stream.begin().interval(1).frame(192, 64, 24).scan(1, 0, 63, 0, 0).flat(0);
        for (int i = 1; i < 24; i++) {
            stream.restart((i - 1) % 8).flat(i);
        }
        DctFilter x = stream.end().given();
        CHECK.same("read", x.read(), 24);
        CHECK.same("whole", x.told(-1, 5), 0);
        for (int i = 0; i < 24; i++) {
            CHECK.same("first of " + i, x.coefficient(i, 0), i);
        }
    }

    /** "MARKERS: a byte 255, more of them, a byte m.": so is one of an interval. */
    private static void markersMayHaveMoreBytes255() {
        for (int more = 0; more <= 20; more++) {
            Stream stream = whole(4, 1).flat(5).restart(0, more).flat(6).restart(1, 20 - more).flat(7).restart(2).flat(8);
            first(more + " more", read(more + " more", stream, 0), 5, 6, 7, 8);
            read(more + " more behind the last unit", whole(1, 1).flat(5).restart(0, more), 0);
        }
        Stream three = Stream.begin().interval(1).frameOfThree(194, 16, 8, 17, 17, 17).scanOfThree(0, 0, 0, 0);
        three.value(0, 1).value(0, 2).value(0, 3).restart(0, 3).value(0, 4).value(0, 5).value(0, 6);
        first("three bands", read("three bands", three, 0), 1, 4, 2, 5, 3, 6);
        Stream refined = row(194, 2, 1).scan(1, 0, 0, 1, 0).bits(1, 1).restart(0, 2).bits(1, 1);
        first("by and by", read("by and by", refined, 0), 1, 1);
    }

    /** "First differences begin anew then (at 0)." Those of each band, and in each scan. */
    private static void firstDifferencesBeginAnew() {
        Stream stream = Stream.begin().interval(2).frameOfThree(192, 24, 8, 17, 17, 17).scanOfThree(0, 63, 0, 0);
        stream.flat(1).flat(2).flat(3).flat(1).flat(2).flat(3).restart(0).flat(7).flat(8).flat(9).fill();
        stream.scan(2, 0, 63, 0, 0).flat(5).flat(5).restart(0).flat(5);
        first("bands", read("bands", stream, 0), 1, 2, 7, 5, 10, 5, 3, 6, 9);
    }

    /** "S BITS, told as a number below 2^(s - 1), are less 2^s - 1." */
    private static void sBits() {
        for (int s = 0; s <= 11; s++) {
            int half = 1 << s >> 1;
            int[][] toldAndDue = {{0, s == 0 ? 0 : 1 - (1 << s)}, {Math.max(0, half - 1), s == 0 ? 0 : -half}, {half, half},
                {(1 << s) - 1, (1 << s) - 1}};
            for (int[] one : toldAndDue) {
                if (one[0] < 1 << s) {
                    Stream stream = whole(1, 0).symbol(s).bits(one[0], s).symbol(0);
                    first(s + " bits told as " + one[0], read("s bits", stream, 0), one[1]);
                }
            }
        }
    }

    /** "s (11 at most)": the whole symbol of class 0, of frames 192 and 194. */
    private static void sOfFirstCoefficients() {
        for (int s = 0; s < 255; s++) {
            Stream one = whole(1, 0).symbol(s).bits(1 << Math.min(s, 11) >> 1, Math.min(s, 11)).symbol(0).symbol(0).symbol(0);
            first("s " + s, read("s " + s, one, s <= 11 ? 0 : 1), s <= 11 ? 1 << s >> 1 : 0);
            Stream two = row(194, 1, 0).scan(1, 0, 0, 0, 3).symbol(s).bits(1 << Math.min(s, 11) >> 1, Math.min(s, 11));
            first("by and by " + s, read("by and by " + s, two, s <= 11 ? 0 : 1), s <= 11 ? (1 << s >> 1) * 8 : 0);
        }
    }

    /** "s > 0 (10 at most): r coefficients are passed, the next one is s bits" */
    private static void sOfOthers() {
        for (int symbol = 0; symbol < 255; symbol++) {
            int s = symbol % 16;
            int r = symbol / 16;
            if (s == 0) {
                continue;
            }
            Stream one = whole(1, 0).symbol(0).symbol(symbol).bits(0, Math.min(s, 10)).symbol(0).symbol(0).symbol(0);
            DctFilter x = read("192, symbol " + symbol, one, s <= 10 ? 0 : 1);
            Stream two = row(194, 1, 0).scan(1, 2, 40, 0, 1).symbol(symbol).bits(0, Math.min(s, 10)).symbol(0).symbol(0).symbol(0);
            DctFilter y = read("194, symbol " + symbol, two, s <= 10 ? 0 : 1);
            for (int i = 0; i < 64; i++) {
                int value = s <= 10 ? 1 - (1 << s) : 0;
                CHECK.same("coefficient " + i + " of " + symbol, x.coefficient(0, i), i == 1 + r ? value : 0);
                CHECK.same("moved coefficient " + i + " of " + symbol, y.coefficient(0, i), i == 2 + r ? value * 2 : 0);
            }
        }
    }

    /** "(s 0 or 1;" of high > 0 */
    private static void sWhenRefined() {
        for (int symbol = 0; symbol < 255; symbol++) {
            int s = symbol % 16;
            int r = symbol / 16;
            Stream stream = row(194, 1, 0).scan(1, 1, 63, 4, 3).symbol(symbol).bits(0, s == 1 ? 1 : s == 0 && r < 15 ? r : 0);
            DctFilter x = read("symbol " + symbol, stream.symbol(0).symbol(0), s <= 1 ? 0 : 1);
            for (int i = 1; i < 64; i++) {
                CHECK.same("coefficient " + i + " of " + symbol, x.coefficient(0, i), s == 1 && i == 1 + r ? -8 : 0);
            }
        }
    }

    /** "240: sixteen are passed; r alone otherwise: the block ends." */
    private static void sixteenArePassed() {
        DctFilter x = read("240", whole(2, 0).symbol(0).symbol(240).value(0, 9).symbol(0).flat(3), 0);
        CHECK.same("coefficient 17", x.coefficient(0, 17), 9);
        for (int r = 0; r < 15; r++) {
            x = read("r alone", whole(2, 0).symbol(0).value(0, 7).symbol(16 * r).flat(3), 0);
            CHECK.same("coefficient 1", x.coefficient(0, 1), 7);
            CHECK.same("the next block", x.coefficient(1, 0), 3);
        }
        x = read("240 at the last ones", whole(2, 0).symbol(0).symbol(240).symbol(240).symbol(240).value(13, 1).value(0, 2).flat(3), 0);
        CHECK.same("coefficient 62", x.coefficient(0, 62), 1);
        CHECK.same("coefficient 63", x.coefficient(0, 63), 2);
        CHECK.same("no r = 0 behind the last one", x.coefficient(1, 0), 3);
    }

    /** "From 0, high > 0: a bit; 1: it gets 2^low more (joined bit by bit)." */
    private static void firstBitsAreJoined() {
        int[][] cases = {{0, 0, 0}, {0, 1, 4}, {4, 1, 4}, {3, 1, 7}, {-1, 1, -1}, {-8, 1, -4}, {-8, 0, -8}, {-5, 1, -1}, {-4, 1, -4}, {12, 1, 12}};
        for (int[] one : cases) {
            Stream stream = row(194, 1, 0).scan(1, 0, 0, 0, 0).value(0, one[0]).fill().scan(1, 0, 0, 3, 2).bits(one[1], 1);
            first(one[0] + " and " + one[1], read("joined", stream, 0), one[2]);
        }
    }

    /** Block i has a coefficient 1 of due[i]. */
    private static void ends(String what, Stream stream, int damaged, int... due) {
        DctFilter x = read(what, stream, damaged);
        for (int i = 0; i < due.length; i++) {
            CHECK.same(what + ", block " + i, x.coefficient(i, 1), due[i]);
        }
    }

    /** "r alone below 15: 2^r and r bits more are how many blocks, with this one, end here" */
    private static void endsAreToldBy2ToTheRAndMore() {
        for (int blocks = 1; blocks <= 7; blocks++) {
            int r = 31 - Integer.numberOfLeadingZeros(blocks);
            Stream stream = row(194, 8, 0).scan(1, 1, 63, 0, 0).value(0, 5).symbol(16 * r).bits(blocks - (1 << r), r);
            int[] due = new int[8];
            due[0] = 5;
            for (int i = blocks; i < 8; i++) {
                stream.value(0, 20 + i).symbol(0);
                due[i] = 20 + i;
            }
            ends(blocks + " end", stream, 0, due);
        }
    }

    /** "(not beyond a marker" */
    private static void endsNotBeyondAMarker() {
        Stream stream = row(194, 4, 2).scan(1, 1, 63, 0, 0).symbol(32).bits(3, 2).restart(0).value(0, 6).symbol(0).value(0, 7).symbol(0);
        ends("a marker", stream, 0, 0, 0, 6, 7);
        Stream refined = row(194, 2, 1).scan(1, 1, 63, 1, 0).symbol(32).bits(3, 2).restart(0).symbol(1).bits(1, 1).symbol(0);
        ends("a marker when refined", refined, 0, 0, 1);
    }

    /** "a damaged unit": of four blocks that end the second needs a bit, and bits end there. */
    private static void endsNotBeyondADamagedUnit() {
        Stream stream = row(194, 6, 0).scan(1, 1, 2, 0, 1);
        stream.symbol(0).value(0, 1).symbol(0).value(0, 1).symbol(0).value(0, 1).symbol(0).symbol(0).symbol(0).fill().interval(4);
        // Codes 0 for symbol 1 and 100000 for symbol 32 (2^2 and two bits more).
        stream.put(255, 196, 0, 21, 0x11, 1, 0, 0, 0, 0, 1, 0, 0, 0, 0, 0, 0, 0, 0, 0, 0, 1, 32);
        stream.scan(1, 1, 2, 1, 0).change(stream.size() - 4, 1);
        stream.bits(32, 6).bits(0, 2).put(255, 208);
        stream.bits(0, 1).bits(1, 1).bits(0, 1).bits(0, 1).bits(32, 6).bits(0, 2);
        DctFilter x = read("a damaged unit", stream, 3);
        int[] damaged = {0, 1, 1, 1, 0, 0};
        int[] due = {0, 2, 2, 2, 1, 0};
        for (int i = 0; i < 6; i++) {
            CHECK.same("damage of block " + i, x.told(i, 3), damaged[i]);
            CHECK.same("block " + i, x.coefficient(i, 1), due[i]);
        }
        CHECK.same("block 4 does not end at once", x.coefficient(4, 2), -1);
    }

    /** "the scan;" */
    private static void endsNotBeyondTheScan() {
        Stream stream = row(194, 2, 0).scan(1, 1, 63, 0, 0).symbol(48).bits(0, 3).fill();
        stream.scan(1, 1, 63, 0, 0).value(0, 6).symbol(0).value(0, 7).symbol(0);
        ends("the scan", stream, 0, 6, 7);
        Stream refined = row(194, 2, 0).scan(1, 1, 63, 1, 0).symbol(48).bits(0, 3).fill();
        refined.scan(1, 1, 63, 1, 0).symbol(1).bits(1, 1).symbol(0).symbol(1).bits(0, 1).symbol(0);
        ends("the scan when refined", refined, 0, 1, -1);
    }

    /** "more than there are is no damage)" */
    private static void endsMoreThanThereAre() {
        for (int r = 0; r < 15; r++) {
            ends("2^" + r, row(194, 1, 0).scan(1, 1, 63, 0, 0).value(0, 4).symbol(16 * r).bits((1 << r) - 1, r), 0, 4);
            ends("2^" + r + " when refined", row(194, 1, 0).scan(1, 1, 63, 1, 0).symbol(1).bits(1, 1).symbol(16 * r).bits((1 << r) - 1, r), 0, 1);
            ends("2^" + r + " before a marker", row(194, 2, 1).scan(1, 1, 63, 0, 0).symbol(16 * r).bits(0, r).restart(0).value(0, 4)
                    .symbol(0), 0, 0, 4);
        }
    }
}
