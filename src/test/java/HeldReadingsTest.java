/**
 * Where two half sentences of the document could be meant: the case, the half sentences, the one whose words fit it,
 * and what is due then.
 */
final class HeldReadingsTest {
    private static final Check CHECK = new Check();

    public static void main(String[] args) {
        aWrongNumberOfBandsIsThatByte();
        aLengthThatDoesNotFitAPossibleNumber();
        oneByteOfALength();
        oneByte255();
        sixteenPassedBeyondTheLast();
        aRestartMarkerAsAnyMarker();
        twoBytes255BehindDamage();
        theBitOfAnInt();
        earlierScansStay();
        theHeightIsLookedForBehindItself();
        markersGoByTheIntervalsNumber();
        namesInTheOrderOfTheFrame();
        tablesBeginAsTableTells();
        damageStaysOverScans();
        CHECK.end();
    }

    private static Stream whole(int blocks, int interval) {
        return Stream.begin().interval(interval).frame(192, 8 * blocks, 8).scan(1, 0, 63, 0, 0);
    }

    private static DctFilter read(Stream stream, int damaged) {
        DctFilter x = stream.put(255, 217).given();
        CHECK.same("read", x.read(), 8);
        CHECK.same("damaged", x.told(-1, 5), damaged);
        return x;
    }

    /**
     * "a length that is .. not what it must be: its own", or "of a frame and scan: the byte that is wrong"? What a
     * frame's length must be is said by "how many bands (1 or 3)"; a number that is neither says nothing of a length,
     * but is wrong itself, whatever length goes with it. Of a scan ("1, or all") likewise.
     */
    private static void aWrongNumberOfBandsIsThatByte() {
        for (int count = 0; count < 256; count++) {
            if (count != 1 && count != 3) {
                CHECK.same("frame " + count, Stream.begin().frame(192, 8, 8).change(11, count).end().answer(), -1 - 11);
                Stream three = Stream.begin().frameOfThree(194, 8, 8, 17, 17, 17).change(11, count).end();
                CHECK.same("frame of three " + count, three.answer(), -1 - 11);
                Stream fitting = Stream.begin().segment(192, 8 + 3 * count).put(8, 0, 8, 0, 8, count).put(new int[3 * count]).end();
                CHECK.same("frame and length of " + count, fitting.answer(), -1 - 11);
                Stream scan = Stream.begin().frameOfThree(192, 8, 8, 17, 17, 17).scanOfThree(0, 63, 0, 0).change(25, count).end();
                CHECK.same("scan " + count, scan.answer(), -1 - 25);
                Stream other = Stream.begin().frameOfThree(192, 8, 8, 17, 17, 17).segment(218, 6 + 2 * count).put(count).put(new int[3 + 2 * count]).end();
                CHECK.same("scan and length of " + count, other.answer(), -1 - 25);
            }
            if (count != 1) {
                CHECK.same("scan of one " + count, Stream.begin().frame(192, 8, 8).scan(1, 0, 63, 0, 0).change(19, count).end().answer(), -1 - 19);
            }
        }
    }

    /** The same half sentences: a number that may be says what the length must be, so that "its own" fits. */
    private static void aLengthThatDoesNotFitAPossibleNumber() {
        CHECK.same("three, and length 11", Stream.begin().frame(192, 8, 8).change(11, 3).end().answer(), -1 - 4);
        Stream one = Stream.begin().frameOfThree(192, 8, 8, 17, 17, 17).change(11, 1).end();
        CHECK.same("one, and length 17", one.answer(), -1 - 4);
        Stream scan = Stream.begin().frameOfThree(192, 8, 8, 17, 17, 17).scanOfThree(0, 63, 0, 0).change(25, 1).end();
        CHECK.same("a scan of one, and length 12", scan.answer(), -1 - 23);
        Stream other = Stream.begin().frameOfThree(192, 8, 8, 17, 17, 17).scan(1, 0, 63, 0, 0).change(25, 3).end();
        CHECK.same("a scan of three, and length 8", other.answer(), -1 - 23);
    }

    /**
     * "of a length that is below 2, or beyond the bytes .. : its own", or "the size, when bytes end"? A length counts
     * its own two bytes ("with these"): where one byte is left it is below 2 or beyond the bytes, whatever the other
     * one would be. The size is the place "of what can't be there", a byte 255 or m.
     */
    private static void oneByteOfALength() {
        for (int b : new int[] {0, 1, 255}) {
            CHECK.same("a byte " + b, Stream.begin().put(255, 224, b).answer(), -1 - 4);
            CHECK.same("behind a frame", Stream.begin().frame(192, 8, 8).put(255, 218, b).answer(), -1 - 17);
        }
    }

    /** "0 (no 255, 216)", or "the size, when bytes end"? A byte 255 alone is no 255, 216. */
    private static void oneByte255() {
        CHECK.same("255", new Stream().put(255).answer(), -1);
    }

    /** "240: sixteen are passed", or "a coefficient beyond the last one is told"? What is passed is not told. */
    private static void sixteenPassedBeyondTheLast() {
        read(whole(2, 0).put(0, 240, 240, 240, 240, 0, 0), 0);
        read(whole(2, 0).put(0, 240, 240, 240, 0xc8, 200, 240, 0, 0), 0);
        read(Stream.begin().frame(194, 16, 8).scan(1, 1, 5, 0, 0).put(240, 0), 0);
        read(Stream.begin().frame(194, 16, 8).scan(1, 1, 5, 1, 0).put(240, 0), 0);
        read(Stream.begin().frame(194, 8, 8).scan(1, 1, 1, 0, 1).put(8, 200).scan(1, 1, 1, 1, 0).symbol(240).bits(1, 1).fill(), 0);
    }

    /**
     * "a marker 208 + k must be there", and "MARKERS: a byte 255, more of them, a byte m" says what a marker is: more
     * bytes 255 may stand in it, as in any other, but no other byte before it.
     */
    private static void aRestartMarkerAsAnyMarker() {
        read(whole(2, 1).put(0, 0, 255, 208, 0, 0), 0);
        read(whole(2, 1).put(0, 0, 255, 255, 208, 0, 0), 0);
        read(whole(2, 1).put(0, 0, 255, 255, 255, 255, 208, 0, 0), 0);
        read(whole(2, 1).put(0, 0, 7, 255, 208, 0, 0), 1);
        read(whole(2, 1).put(0, 0, 255, 0, 255, 208, 0, 0), 1);
        read(whole(2, 1).put(0, 0, 255, 255, 209, 255, 1), 1);
    }

    /**
     * "the first byte 255 from there on, followed by 208 .. 215", or "a byte 255 with another byte above 0 comes
     * first"? Behind damage not markers are looked for, but bytes: of 255, 255, 208 the first 255 comes first, and 255
     * behind it is another byte above 0. So too "followed by neither 0 nor 208 .. 215" behind the scan.
     */
    private static void twoBytes255BehindDamage() {
        DctFilter x = read(whole(3, 1).put(255, 0, 255, 255, 208).put(255, 254, 0, 2), 3);
        CHECK.same("scans", x.told(-1, 4), 1);
        CHECK.same("markers go on there: 208 is alone", whole(3, 1).put(255, 0, 255, 255, 208, 7).put(255, 217).answer(), -1 - 36);
    }

    /** "if it has not that bit": it is the coefficient, and "COEFFICIENTS .. ints" have bits below 0 too; their size is not named. */
    private static void theBitOfAnInt() {
        int[][] cases = {{1, 3}, {2, 2}, {3, 3}, {4, 6}, {5, 7}, {6, 6}, {-1, -1}, {-2, -2}, {-3, -5}, {-4, -6}, {-5, -5}, {-6, -6}, {-7, -9}};
        for (int[] one : cases) {
            Stream stream = Stream.begin().frame(194, 8, 8).scan(1, 1, 1, 0, 0).value(0, one[0]).fill();
            DctFilter x = read(stream.copy().scan(1, 1, 1, 2, 1).symbol(0).bits(1, 1).fill(), 0);
            CHECK.same(one[0] + " with a bit", x.coefficient(0, 1), one[1]);
            x = read(stream.copy().scan(1, 1, 1, 2, 1).symbol(0).bits(0, 1).fill(), 0);
            CHECK.same(one[0] + " without", x.coefficient(0, 1), one[0]);
        }
    }

    /** "r coefficients are passed, the next one is s bits": those that are passed, or behind the block's end, stay. */
    private static void earlierScansStay() {
        DctFilter x = read(whole(1, 0).put(8, 200, 8, 201, 8, 202, 0).scan(1, 0, 63, 0, 0).put(8, 130, 24, 131, 0), 0);
        CHECK.same("told anew", x.coefficient(0, 0), 130);
        CHECK.same("passed", x.coefficient(0, 1), 201);
        CHECK.same("told anew", x.coefficient(0, 2), 131);
        x = read(whole(1, 0).put(8, 200, 8, 201, 0).scan(1, 0, 63, 0, 0).put(8, 130, 0), 0);
        CHECK.same("behind the block's end", x.coefficient(0, 1), 201);
    }

    /** "anywhere behind": the frame's own bytes can't tell it and be right themselves. */
    private static void theHeightIsLookedForBehindItself() {
        Stream wide = Stream.begin().frame(192, 8, 0).change(9, 255).change(10, 220).put(255, 220, 0, 4, 0, 5).end();
        CHECK.same("the width is wrong then", wide.answer(), -1 - 9);
    }

    /** "k being how many such came before" and "whose number before modulo 8 is that one's": lost markers count. */
    private static void markersGoByTheIntervalsNumber() {
        DctFilter x = read(whole(6, 1).put(0, 0, 255, 208, 255, 0, 255, 210, 8, 200, 0, 255, 211, 8, 201, 0, 255, 212, 8, 202, 0), 2);
        CHECK.same("unit 3", x.coefficient(3, 0), 200);
        CHECK.same("unit 4", x.coefficient(4, 0), 201);
        CHECK.same("unit 5", x.coefficient(5, 0), 202);
    }

    /**
     * "how many bands (1, or all), for each its name (in the order of the frame)": of all bands the first one's name
     * is the frame's first. "The byte that is wrong" is the first name that is another one than the frame has there,
     * not the one at which the order turns.
     */
    private static void namesInTheOrderOfTheFrame() {
        Stream stream = Stream.begin().frameOfThree(192, 8, 8, 17, 17, 17).scanOfThree(0, 63, 0, 0).put(0, 0, 0, 0, 0, 0).put(255, 217);
        CHECK.same("in order", stream.answer(), 8);
        CHECK.same("2, 1, 3", stream.copy().change(26, 2).change(28, 1).answer(), -1 - 26);
        CHECK.same("1, 3, 2", stream.copy().change(28, 3).change(30, 2).answer(), -1 - 28);
        CHECK.same("1, 2, 2", stream.copy().change(30, 2).answer(), -1 - 30);
    }

    /** "TABLES .. at first 16" and "whatever table() tells behind it": what it told before the reading holds. */
    private static void tablesBeginAsTableTells() {
        DctFilter x = whole(1, 0).put(8, 200, 0, 255, 217).given();
        x.table(0, 0, 2);
        x.read();
        CHECK.same("exact", x.exact(0, 0), 2L * 200 * 2896 * 2896);
    }

    /** "3 whether it was damaged": in any scan of the picture. */
    private static void damageStaysOverScans() {
        DctFilter x = read(whole(2, 0).put(0, 0).scan(1, 0, 63, 0, 0).put(8, 200, 0, 0, 0), 1);
        CHECK.same("block 0", x.told(0, 3), 0);
        CHECK.same("block 1", x.told(1, 3), 1);
        CHECK.same("read in the second scan", x.coefficient(1, 0), 200);
    }
}
