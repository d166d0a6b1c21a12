/** What "TO READ" says of the end, of empty lengths, of a height that is told behind, and of from, to, high and low. */
final class SentencesOfMarkersTest {
    private static final Check CHECK = new Check();

    public static void main(String[] args) {
        theEndMustCome();
        behindTheEndNothingIsLookedAt();
        aHeightIsToldBehindTheEnd();
        moreBytes255();
        aLengthOf2TellsNone();
        tablesHoldForThisReading();
        samplesAreByTheTablesAtTheEnd();
        codesHoldForThisReading();
        allCodesAtOnce();
        symbolsBeginAnew();
        oneSymbolMoreThanOnce();
        theIntervalIsAtFirst0();
        heightIsToldAnywhereBehind();
        heightIsToldByTheFirst();
        heightNeedsTwoBytesMore();
        heightThatIsThereIsNotTold();
        lowAndHigh();
        whateverCameBefore();
        CHECK.end();
    }

    private static Stream block(int difference) {
        return Stream.begin().frame(192, 8, 8).scan(1, 0, 63, 0, 0).flat(difference).fill();
    }

    /** "217 is the end, which must come" */
    private static void theEndMustCome() {
        CHECK.same("without a frame", Stream.begin().put(255, 217).answer(), 0);
        CHECK.same("behind a frame", Stream.begin().frame(192, 8, 8).put(255, 217).answer(), 8);
        CHECK.same("behind data", block(1).put(255, 217).answer(), 8);
        CHECK.same("not there", block(1).answer(), -1 - block(1).size());
        CHECK.same("a 217 within a length is none", Stream.begin().put(255, 224, 0, 4, 255, 217).answer(), -1 - 8);
    }

    /** "what is behind it is not looked at" */
    private static void behindTheEndNothingIsLookedAt() {
        int[][] behind = {{0}, {255}, {255, 0}, {255, 216}, {255, 193}, {255, 192, 0, 0}, {7, 7, 7}, {255, 218, 0, 8, 1, 1, 0, 0, 63, 0, 1},
            {255, 219, 0, 67, 0, 0}, {255, 217}, {255, 220, 0, 4, 0, 33}};
        for (int[] bytes : behind) {
            DctFilter x = block(3).put(255, 217).put(bytes).given();
            CHECK.same("read", x.read(), 8);
            CHECK.same("coefficient", x.coefficient(0, 0), 3);
            CHECK.same("scans", x.told(-1, 4), 1);
            CHECK.same("without a frame", Stream.begin().put(255, 217).put(bytes).answer(), 0);
        }
    }

    /** "but for a height that is told there" */
    private static void aHeightIsToldBehindTheEnd() {
        Stream stream = Stream.begin().frame(194, 8, 0).put(255, 217);
        CHECK.same("at once", stream.copy().put(255, 220, 0, 4, 0, 64).answer(), 64);
        CHECK.same("behind other bytes", stream.copy().put(1, 2, 255, 255, 220, 0, 4, 0, 1, 9).answer(), 1);
        CHECK.same("behind another end", stream.copy().put(255, 217, 255, 217, 255, 220, 0, 4, 0, 2).answer(), 2);
        CHECK.same("the end must come yet", Stream.begin().frame(194, 8, 0).put(255, 220, 0, 4, 0, 2).answer(), -1 - 21);
    }

    /** "a byte 255, more of them, a byte m" */
    private static void moreBytes255() {
        Stream stream = Stream.begin();
        for (int i = 0; i < 300; i++) {
            stream.put(255);
        }
        CHECK.same("300 more", stream.copy().frame(192, 8, 8).put(255, 255, 255, 217).answer(), 8);
        CHECK.same("and no m", stream.answer(), -1 - 302);
    }

    /** "A length of 2 tells none." */
    private static void aLengthOf2TellsNone() {
        DctFilter x = new DctFilter();
        x.table(0, 0, 3);
        Stream.begin().segment(219, 2).segment(196, 2).frame(192, 8, 8).segment(219, 2).segment(196, 2)
                .scan(1, 0, 63, 0, 0).flat(7).fill().segment(219, 2).segment(196, 2).end().giveTo(x);
        CHECK.same("read", x.read(), 8);
        CHECK.same("the first codes hold", x.coefficient(0, 0), 7);
        CHECK.same("the tables hold", x.exact(0, 0), 3L * 7 * 2896 * 2896);
        CHECK.same("others may be empty too", Stream.begin().segment(224, 2).segment(220, 2).segment(254, 2).end().answer(), 0);
    }

    private static Stream tableOf(Stream stream, int number, int value) {
        stream.put(number);
        for (int i = 0; i < 64; i++) {
            stream.put(value);
        }
        return stream;
    }

    /** "(They hold for this reading;" */
    private static void tablesHoldForThisReading() {
        DctFilter x = new DctFilter();
        for (int kind = 0; kind < 4; kind++) {
            tableOf(Stream.begin().segment(219, 67), kind, 200).frame(192, 8, 8).change(2 + 69 + 12, kind)
                    .scan(1, 0, 63, 0, 0).flat(1).end().giveTo(x);
            CHECK.same("read", x.read(), 8);
            CHECK.same("told", x.exact(0, 0), 200L * 2896 * 2896);
            CHECK.same("table() is as it was", x.table(kind, 0, -1), 16);
            block(1).change(14, kind).put(255, 217).giveTo(x);
            CHECK.same("read", x.read(), 8);
            CHECK.same("not told any more", x.exact(0, 0), 16L * 2896 * 2896);
        }
        tableOf(Stream.begin().segment(219, 67), 0, 200).put(255, 0).giveTo(x);
        CHECK.same("a fault", x.read(), -1 - 72);
        block(1).put(255, 217).giveTo(x);
        x.read();
        CHECK.same("nor behind a fault", x.exact(0, 0), 16L * 2896 * 2896);
    }

    /** "EXACT and samples are by the tables at its end, whatever table() tells behind it." */
    private static void samplesAreByTheTablesAtTheEnd() {
        DctFilter x = new DctFilter();
        x.table(0, 0, 5);
        Stream stream = tableOf(Stream.begin().segment(219, 67), 0, 10).frame(192, 8, 8).scan(1, 0, 63, 0, 0).flat(4).fill();
        tableOf(stream.segment(219, 132), 0, 100);
        tableOf(stream, 0, 80).end().giveTo(x);
        x.read();
        CHECK.same("the last one of all", x.exact(0, 63), 4L * 80 * 2896 * 2896);
        CHECK.same("sample", x.sample(0, 0, 0), 128 + 40);
        x.table(0, 0, 255);
        CHECK.same("exact", x.exact(0, 63), 4L * 80 * 2896 * 2896);
        CHECK.same("sample", x.sample(0, 0, 0), 128 + 40);
        block(4).put(255, 217).giveTo(x);
        x.table(0, 0, 24);
        x.read();
        CHECK.same("table() before the reading, behind add", x.sample(0, 0, 0), 128 + 12);
    }

    /** "At first all have 8 bits, symbols 0 .. 254 in order." */
    private static void codesHoldForThisReading() {
        DctFilter x = new DctFilter();
        for (int number = 0; number < 4; number++) {
            Stream stream = Stream.begin().segment(196, 2 + 18 + 18).codes(number, 1).codes(16 + number, 1);
            stream.frame(192, 8, 8).scan(1, 0, 63, 0, 0).change(stream.size() - 4, 17 * number).bits(0, 2).end();
            stream.giveTo(x);
            CHECK.same("read", x.read(), 8);
            CHECK.same("two bits are enough", x.told(-1, 5), 0);
            Stream first = Stream.begin().frame(192, 8, 8).scan(1, 0, 63, 0, 0);
            first.change(first.size() - 4, 17 * number).flat(-70).end().giveTo(x);
            x.read();
            CHECK.same("the first codes again", x.coefficient(0, 0), -70);
        }
        DctFilter last = Stream.begin().frame(192, 8, 8).scan(1, 0, 63, 0, 0).symbol(1).bits(1, 1).bits(0xfe, 8).end().given();
        last.read();
        CHECK.same("254 is a code: s is too much", last.coefficient(0, 0), 1);
        CHECK.same("damaged", last.told(0, 3), 1);
    }

    /** "CODES 0 .. 3 of two classes": all eight are told, each with symbols of its own, and bands use them crosswise. */
    private static void allCodesAtOnce() {
        for (int one = 0; one < 4; one++) {
            for (int two = 0; two < 4; two++) {
                Stream stream = Stream.begin();
                for (int i = 0; i < 8; i++) {
                    stream.segment(196, 21).put(16 * (i / 4) + i % 4, 0, 0, 0, 0, 0, 0, 0, 2, 0, 0, 0, 0, 0, 0, 0, 0);
                    stream.put(i < 4 ? 1 + i : 0x11 + i, 0);
                }
                stream.frameOfThree(192, 8, 8, 17, 17, 17).scanOfThree(0, 63, 0, 0);
                int[] numbers = {16 * one + two, 16 * two + one, 17 * one};
                for (int i = 0; i < 3; i++) {
                    stream.change(stream.size() - 8 + 2 * i, numbers[i]);
                }
                for (int number : numbers) {
                    int first = 1 + number / 16;
                    int other = 5 + number % 16;
                    stream.bits(0, 8).bits((1 << first) - 1, first).bits(0, 8).bits((1 << other) - 1, other).bits(1, 8);
                }
                DctFilter x = stream.end().given();
                CHECK.same("read", x.read(), 8);
                CHECK.same("whole", x.told(-1, 5), 0);
                for (int i = 0; i < 3; i++) {
                    CHECK.same("first of band " + i, x.coefficient(i, 0), (2 << numbers[i] / 16) - 1);
                    CHECK.same("another of band " + i, x.coefficient(i, 2), (32 << numbers[i] % 16) - 1);
                }
            }
        }
    }

    private static void symbolsBeginAnew() {
        DctFilter x = new DctFilter();
        Stream told = Stream.begin().segment(196, 19 + 255);
        told.put(0, 0, 0, 0, 0, 0, 0, 0, 255, 0, 0, 0, 0, 0, 0, 0, 0);
        for (int i = 0; i < 255; i++) {
            told.put(255 - i);
        }
        told.segment(196, 19 + 1).codes(16, 1).change(told.size() - 1, 9).put(255, 217).giveTo(x);
        CHECK.same("read", x.read(), 0);
        for (int s = 0; s <= 11; s++) {
            Stream.begin().frame(192, 8, 8).scan(1, 0, 63, 0, 0).flat(1 << s >> 1).end().giveTo(x);
            CHECK.same("read", x.read(), 8);
            CHECK.same("first", x.coefficient(0, 0), 1 << s >> 1);
            CHECK.same("whole", x.told(-1, 5), 0);
        }
    }

    /** "symbols (256 at most, also one more than once)" */
    private static void oneSymbolMoreThanOnce() {
        Stream stream = Stream.begin().segment(196, 2 + 21 + 18);
        stream.put(0, 0, 4, 0, 0, 0, 0, 0, 0, 0, 0, 0, 0, 0, 0, 0, 0, 3, 3, 3, 1).codes(16, 1);
        stream.frame(192, 24, 8).scan(1, 0, 63, 0, 0);
        stream.bits(0, 2).bits(4, 3).bits(0, 1).bits(2, 2).bits(5, 3).bits(0, 1).bits(3, 2).bits(0, 1).bits(0, 1);
        DctFilter x = stream.end().given();
        CHECK.same("read", x.read(), 8);
        CHECK.same("whole", x.told(-1, 5), 0);
        CHECK.same("code 00", x.coefficient(0, 0), 4);
        CHECK.same("code 10", x.coefficient(1, 0), 9);
        CHECK.same("code 11", x.coefficient(2, 0), 8);
    }

    /** "221 (length 4): THE INTERVAL, two bytes; at first 0." */
    private static void theIntervalIsAtFirst0() {
        DctFilter x = Stream.begin().interval(1).frame(192, 16, 8).scan(1, 0, 63, 0, 0).flat(1).restart(0).flat(1).end().given();
        x.read();
        CHECK.same("told", x.told(-1, 5), 0);
        Stream.begin().frame(192, 16, 8).scan(1, 0, 63, 0, 0).flat(1).flat(1).end().giveTo(x);
        x.read();
        CHECK.same("0 in the next reading", x.told(-1, 5), 0);
        Stream.begin().interval(256).frame(192, 16, 8).scan(1, 0, 63, 0, 0).flat(1).flat(1).end().giveTo(x);
        x.read();
        CHECK.same("the higher byte first", x.told(-1, 5), 0);
        Stream.begin().interval(1).interval(0).frame(192, 16, 8).scan(1, 0, 63, 0, 0).flat(1).flat(1).end().giveTo(x);
        x.read();
        CHECK.same("told as 0", x.told(-1, 5), 0);
        Stream between = Stream.begin().frame(192, 16, 8).scan(1, 0, 63, 0, 0).flat(1).flat(1).fill().interval(1);
        between.scan(1, 0, 63, 0, 0).flat(5).restart(0).flat(5).end().giveTo(x);
        x.read();
        CHECK.same("told between scans", x.told(-1, 5), 0);
        CHECK.same("for the next scan", x.coefficient(1, 0), 5);
    }

    /** "Height 0: it is told by the first bytes 255, 220, 0, 4 and two more, anywhere behind." */
    private static void heightIsToldAnywhereBehind() {
        Stream frame = Stream.begin().frame(192, 8, 0);
        CHECK.same("at once", frame.copy().put(255, 220, 0, 4, 0, 9).put(255, 217).answer(), 9);
        CHECK.same("in what is passed", frame.copy().segment(224, 8).put(255, 220, 0, 4, 0, 10).put(255, 217).answer(), 10);
        Stream tables = frame.copy().segment(219, 67).put(0);
        for (int i = 0; i < 64; i++) {
            tables.put(1);
        }
        CHECK.same("not where one is missing", tables.put(255, 217).answer(), -1 - 7);
        Stream codes = frame.copy().segment(196, 19 + 6).put(0, 0, 0, 6, 0, 0, 0, 0, 0, 0, 0, 0, 0, 0, 0, 0, 0);
        CHECK.same("as symbols of codes", codes.put(255, 220, 0, 4, 0, 11).put(255, 217).answer(), 11);
        Stream data = frame.copy().scan(1, 0, 63, 0, 0).flat(1).fill().put(255, 220, 0, 4, 0, 12).put(255, 217);
        CHECK.same("behind data", data.answer(), 12);
        Stream split = frame.copy().segment(224, 4).put(1, 255).put(220, 0, 4, 0, 13);
        CHECK.same("where a marker should be: it is told, and a fault", split.put(255, 217).answer(), -1 - 21);
    }

    private static void heightIsToldByTheFirst() {
        Stream frame = Stream.begin().frame(194, 8, 0);
        CHECK.same("of two", frame.copy().put(255, 220, 0, 4, 0, 3, 255, 220, 0, 4, 0, 5).put(255, 217).answer(), 3);
        CHECK.same("wrong though", frame.copy().put(255, 220, 0, 4, 0, 0, 255, 220, 0, 4, 0, 5).put(255, 217).answer(), -1 - 7);
        CHECK.same("length 5 is none", frame.copy().put(255, 220, 0, 5, 0, 3, 9, 255, 220, 0, 4, 0, 5).put(255, 217).answer(), 5);
        CHECK.same("length 260 is none", frame.copy().put(255, 217, 255, 220, 1, 4, 0, 3, 255, 220, 0, 4, 0, 6).answer(), 6);
        Stream before = Stream.begin().put(255, 220, 0, 4, 0, 3).frame(194, 8, 0).put(255, 220, 0, 4, 0, 7).put(255, 217);
        CHECK.same("one before is none", before.answer(), 7);
    }

    private static void heightNeedsTwoBytesMore() {
        Stream end = Stream.begin().frame(194, 8, 0).put(255, 217);
        CHECK.same("none more", end.copy().put(255, 220, 0, 4).answer(), -1 - 7);
        CHECK.same("one more", end.copy().put(255, 220, 0, 4, 0).answer(), -1 - 7);
        CHECK.same("two more", end.copy().put(255, 220, 0, 4, 0, 4).answer(), 4);
    }

    private static void heightThatIsThereIsNotTold() {
        for (int height = 1; height <= 64; height += 9) {
            Stream stream = Stream.begin().frame(192, 8, height).put(255, 220, 0, 4, 0, 5).put(255, 217);
            CHECK.same("220 itself is passed", stream.answer(), height);
        }
        CHECK.same("as 0 too", Stream.begin().frame(192, 8, 8).put(255, 220, 0, 4, 0, 0).put(255, 217).answer(), 8);
    }

    /** "low 0 .. 13; high 0 or low + 1" */
    private static void lowAndHigh() {
        for (int high = 0; high < 16; high++) {
            for (int low = 0; low < 16; low++) {
                boolean fits = low <= 13 && (high == 0 || high == low + 1);
                Stream first = Stream.begin().frame(194, 8, 8).scan(1, 0, 0, high, low).put(0, 0).put(255, 217);
                CHECK.same("first, high " + high + " low " + low, first.answer(), fits ? 8 : -1 - 22);
                Stream others = Stream.begin().frame(194, 8, 8).scan(1, 1, 63, high, low).put(0, 0).put(255, 217);
                CHECK.same("others, high " + high + " low " + low, others.answer(), fits ? 8 : -1 - 22);
                Stream whole = Stream.begin().frame(192, 8, 8).scan(1, 0, 63, high, low).put(0, 0).put(255, 217);
                CHECK.same("whole, high " + high + " low " + low, whole.answer(), high == 0 && low == 0 ? 8 : -1 - 22);
            }
        }
    }

    /** "(whatever came before)" */
    private static void whateverCameBefore() {
        Stream stream = Stream.begin().frame(194, 8, 8);
        stream.scan(1, 0, 0, 3, 2).bits(1, 1).fill();
        stream.scan(1, 5, 9, 1, 0).symbol(1).bits(0, 1).symbol(0).fill();
        stream.scan(1, 0, 0, 14, 13).bits(1, 1).fill();
        DctFilter x = stream.copy().put(255, 217).given();
        CHECK.same("read", x.read(), 8);
        CHECK.same("whole", x.told(-1, 5), 0);
        CHECK.same("scans", x.told(-1, 4), 3);
        CHECK.same("bits joined to nothing", x.coefficient(0, 0), 4 + 8192);
        CHECK.same("one that becomes -1", x.coefficient(0, 5), -1);
        stream.scan(1, 0, 0, 0, 1).value(0, 3).fill().scan(1, 5, 5, 0, 0).value(0, 77).fill();
        x = stream.put(255, 217).given();
        CHECK.same("read", x.read(), 8);
        CHECK.same("told anew", x.coefficient(0, 0), 6);
        CHECK.same("told anew", x.coefficient(0, 5), 77);
    }
}
