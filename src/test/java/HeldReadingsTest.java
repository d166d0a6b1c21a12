/** Where the document's words leave room: what is held for right, with the sentences that were read beside each other. */
final class HeldReadingsTest {
    private static final Check CHECK = new Check();

    public static void main(String[] args) {
        aWrongNumberOfBandsIsThatByte();
        aLengthThatDoesNotFitAPossibleNumber();
        oneByteOfALength();
        oneByte255();
        sixteenPassedBeyondTheLast();
        aRestartMarkerAtOnce();
        twoBytes255BehindDamage();
        theBitOfAnInt();
        earlierScansStay();
        theHeightIsLookedForBehindItself();
        markersGoByTheIntervalsNumber();
        namesInTheOrderOfTheFrame();
        tablesBeginAsTableTells();
        damageStaysOverScans();
        CHECK.end();
    }

    private static Stream whole(int blocks, int interval) {
        return Stream.begin().interval(interval).frame(192, 8 * blocks, 8).scan(1, 0, 63, 0, 0);
    }

    private static DctFilter read(Stream stream, int damaged) {
        DctFilter x = stream.put(255, 217).given();
        CHECK.same("read", x.read(), 8);
        CHECK.same("damaged", x.told(-1, 5), damaged);
        return x;
    }

    /** "how many bands (1 or 3)" and "the byte that is wrong": 0 or 2 is wrong itself, whatever length goes with it. */
    private static void aWrongNumberOfBandsIsThatByte() {
        for (int count = 0; count < 256; count++) {
            if (count != 1 && count != 3) {
                CHECK.same("frame " + count, Stream.begin().frame(192, 8, 8).change(11, count).end().answer(), -1 - 11);
                Stream three = Stream.begin().frameOfThree(194, 8, 8, 17, 17, 17).change(11, count).end();
                CHECK.same("frame of three " + count, three.answer(), -1 - 11);
                Stream scan = Stream.begin().frameOfThree(192, 8, 8, 17, 17, 17).scanOfThree(0, 63, 0, 0).change(25, count).end();
                CHECK.same("scan " + count, scan.answer(), -1 - 25);
            }
            if (count != 1) {
                CHECK.same("scan of one " + count, Stream.begin().frame(192, 8, 8).scan(1, 0, 63, 0, 0).change(19, count).end().answer(), -1 - 19);
            }
        }
    }

    /** "not what it must be: its own": a number that may be tells what the length must be. */
    private static void aLengthThatDoesNotFitAPossibleNumber() {
        CHECK.same("three, and length 11", Stream.begin().frame(192, 8, 8).change(11, 3).end().answer(), -1 - 4);
        Stream one = Stream.begin().frameOfThree(192, 8, 8, 17, 17, 17).change(11, 1).end();
        CHECK.same("one, and length 17", one.answer(), -1 - 4);
        Stream scan = Stream.begin().frameOfThree(192, 8, 8, 17, 17, 17).scanOfThree(0, 63, 0, 0).change(25, 1).end();
        CHECK.same("a scan of one, and length 12", scan.answer(), -1 - 23);
        Stream other = Stream.begin().frameOfThree(192, 8, 8, 17, 17, 17).scan(1, 0, 63, 0, 0).change(25, 3).end();
        CHECK.same("a scan of three, and length 8", other.answer(), -1 - 23);
    }

    /** "a length that is .. beyond the bytes .. : its own": also one of which a byte is there. */
    private static void oneByteOfALength() {
        for (int b : new int[] {0, 1, 255}) {
            CHECK.same("a byte " + b, Stream.begin().put(255, 224, b).answer(), -1 - 4);
            CHECK.same("behind a frame", Stream.begin().frame(192, 8, 8).put(255, 218, b).answer(), -1 - 17);
        }
    }

    /** "0 (no 255, 216)": a byte 255 alone is no 255, 216. */
    private static void oneByte255() {
        CHECK.same("255", new Stream().put(255).answer(), -1);
    }

    /** "240: sixteen are passed" and "a coefficient beyond the last one is told": what is passed is not told. */
    private static void sixteenPassedBeyondTheLast() {
        read(whole(2, 0).put(0, 240, 240, 240, 240, 0, 0), 0);
        read(whole(2, 0).put(0, 240, 240, 240, 0xc8, 200, 240, 0, 0), 0);
        read(Stream.begin().frame(194, 16, 8).scan(1, 1, 5, 0, 0).put(240, 0), 0);
        read(Stream.begin().frame(194, 16, 8).scan(1, 1, 5, 1, 0).put(240, 0), 0);
        read(Stream.begin().frame(194, 8, 8).scan(1, 1, 1, 0, 1).put(8, 200).scan(1, 1, 1, 1, 0).symbol(240).bits(1, 1).fill(), 0);
    }

    /** "the rest of the byte is passed, and a marker 208 + k must be there": there, with no byte before it. */
    private static void aRestartMarkerAtOnce() {
        read(whole(2, 1).put(0, 0, 255, 208, 0, 0), 0);
        read(whole(2, 1).put(0, 0, 255, 255, 208, 255, 1), 1);
    }

    /** "a byte 255 with another byte above 0 comes first" and "followed by neither 0 nor 208 .. 215": 255 is such a byte. */
    private static void twoBytes255BehindDamage() {
        DctFilter x = read(whole(3, 1).put(255, 0, 255, 255, 208).put(255, 254, 0, 2), 3);
        CHECK.same("scans", x.told(-1, 4), 1);
        CHECK.same("markers go on there: 208 is alone", whole(3, 1).put(255, 0, 255, 255, 208, 7).put(255, 217).answer(), -1 - 36);
    }

    /** "it grows by 2^low away from 0, if it has not that bit" and "COEFFICIENTS .. ints": the bit of the int. */
    private static void theBitOfAnInt() {
        int[][] cases = {{1, 3}, {2, 2}, {3, 3}, {4, 6}, {5, 7}, {6, 6}, {-1, -1}, {-2, -2}, {-3, -5}, {-4, -6}, {-5, -5}, {-6, -6}, {-7, -9}};
        for (int[] one : cases) {
            Stream stream = Stream.begin().frame(194, 8, 8).scan(1, 1, 1, 0, 0).value(0, one[0]).fill();
            DctFilter x = read(stream.copy().scan(1, 1, 1, 2, 1).symbol(0).bits(1, 1).fill(), 0);
            CHECK.same(one[0] + " with a bit", x.coefficient(0, 1), one[1]);
            x = read(stream.copy().scan(1, 1, 1, 2, 1).symbol(0).bits(0, 1).fill(), 0);
            CHECK.same(one[0] + " without", x.coefficient(0, 1), one[0]);
        }
    }

    /** "r coefficients are passed, the next one is s bits": those that are passed, or behind the block's end, stay. */
    private static void earlierScansStay() {
        DctFilter x = read(whole(1, 0).put(8, 200, 8, 201, 8, 202, 0).scan(1, 0, 63, 0, 0).put(8, 130, 24, 131, 0), 0);
        CHECK.same("told anew", x.coefficient(0, 0), 130);
        CHECK.same("passed", x.coefficient(0, 1), 201);
        CHECK.same("told anew", x.coefficient(0, 2), 131);
        x = read(whole(1, 0).put(8, 200, 8, 201, 0).scan(1, 0, 63, 0, 0).put(8, 130, 0), 0);
        CHECK.same("behind the block's end", x.coefficient(0, 1), 201);
    }

    /** "anywhere behind": the frame's own bytes can't tell it and be right themselves. */
    private static void theHeightIsLookedForBehindItself() {
        Stream wide = Stream.begin().frame(192, 8, 0).change(9, 255).change(10, 220).put(255, 220, 0, 4, 0, 5).end();
        CHECK.same("the width is wrong then", wide.answer(), -1 - 9);
    }

    /** "k being how many such came before" and "whose number before modulo 8 is that one's": lost markers count. */
    private static void markersGoByTheIntervalsNumber() {
        DctFilter x = read(whole(6, 1).put(0, 0, 255, 208, 255, 0, 255, 210, 8, 200, 0, 255, 211, 8, 201, 0, 255, 212, 8, 202, 0), 2);
        CHECK.same("unit 3", x.coefficient(3, 0), 200);
        CHECK.same("unit 4", x.coefficient(4, 0), 201);
        CHECK.same("unit 5", x.coefficient(5, 0), 202);
    }

    /** "for each its name (in the order of the frame)": of all bands the first name must be the frame's first. */
    private static void namesInTheOrderOfTheFrame() {
        Stream stream = Stream.begin().frameOfThree(192, 8, 8, 17, 17, 17).scanOfThree(0, 63, 0, 0).put(0, 0, 0, 0, 0, 0).put(255, 217);
        CHECK.same("in order", stream.answer(), 8);
        CHECK.same("2, 1, 3", stream.copy().change(26, 2).change(28, 1).answer(), -1 - 26);
        CHECK.same("1, 3, 2", stream.copy().change(28, 3).change(30, 2).answer(), -1 - 28);
        CHECK.same("1, 2, 2", stream.copy().change(30, 2).answer(), -1 - 30);
    }

    /** "TABLES .. at first 16" and "whatever table() tells behind it": what it told before the reading holds. */
    private static void tablesBeginAsTableTells() {
        DctFilter x = whole(1, 0).put(8, 200, 0, 255, 217).given();
        x.table(0, 0, 2);
        x.read();
        CHECK.same("exact", x.exact(0, 0), 2L * 200 * 2896 * 2896);
    }

    /** "3 whether it was damaged": in any scan of the picture. */
    private static void damageStaysOverScans() {
        DctFilter x = read(whole(2, 0).put(0, 0).scan(1, 0, 63, 0, 0).put(8, 200, 0, 0, 0), 1);
        CHECK.same("block 0", x.told(0, 3), 0);
        CHECK.same("block 1", x.told(1, 3), 1);
        CHECK.same("read in the second scan", x.coefficient(1, 0), 200);
    }
}
