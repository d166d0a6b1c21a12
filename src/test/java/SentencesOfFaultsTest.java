import java.util.ArrayList;
import java.util.List;

/** "A FAULT has a place": a method for each of its phrases, and every byte of a small picture changed or cut off. */
final class SentencesOfFaultsTest {
    private static final Check CHECK = new Check();

    public static void main(String[] args) {
        noBeginning();
        theByteThatShouldBe255();
        theMarkerItself();
        theSizeWhenBytesEnd();
        lengthBelow2();
        lengthBeyondTheBytes();
        lengthThatIsNotWhatItMustBe();
        tableNumber();
        tableNotAllThere();
        numberZeroInATable();
        codesNumber();
        codesNotAllThere();
        moreCodesThanBits();
        moreCodesThan256();
        theByteOfAFrame();
        theByteOfAScan();
        fromOfFromToAndTheLast();
        secondFrame();
        scanWithoutAFrame();
        heightThatIsNotTold();
        everyByteChanged();
        everyPrefix();
        everyPrefixOfAFullObject();
        bytesAreTakenAndNoPictureIsThere();
        CHECK.end();
    }

    private static void fault(String what, Stream stream, int place) {
        CHECK.same(what, stream.answer(), -1 - place);
    }

    private static void good(String what, Stream stream, int rows) {
        CHECK.same(what, stream.answer(), rows);
    }

    /** 37 bytes: a frame at 2, a scan at 15, data at 25. */
    private static Stream small() {
        return Stream.begin().frame(192, 16, 8).scan(1, 0, 63, 0, 0).put(4, 160, 44, 141, 120, 8, 192, 0, 216, 7).end();
    }

    /** A picture with each kind of marker; into parts come where each begins and ends. */
    private static Stream allKinds(Stream stream, List<int[]> parts) {
        parts.add(part(stream, () -> stream.segment(219, 67).table(0, -1)));
        parts.add(part(stream, () -> stream.segment(196, 21).codes(0, 1, 1)));
        parts.add(part(stream, () -> stream.interval(2)));
        parts.add(part(stream, () -> stream.segment(224, 5).put(255, 217, 255)));
        parts.add(part(stream, () -> stream.frame(192, 16, 8)));
        parts.add(part(stream, () -> stream.scan(1, 0, 63, 0, 0)));
        // Symbol 1 and a bit, r = 0; then 0 and r = 0: 255 is not among these bits.
        return stream.bits(2, 2).bits(1, 1).symbol(0).bits(0, 1).symbol(0).end();
    }

    private static int[] part(Stream stream, Runnable put) {
        int begin = stream.size();
        put.run();
        return new int[] {begin, stream.size()};
    }

    private static int placeWhenCut(int size, List<int[]> parts) {
        int place = size < 2 ? 0 : size;
        for (int[] part : parts) {
            place = size > part[0] + 2 && size < part[1] ? part[0] + 2 : place;
        }
        return place;
    }

    /** "0 (no 255, 216)" */
    private static void noBeginning() {
        fault("none", new Stream(), 0);
        fault("255 alone", new Stream().put(255), 0);
        fault("216 alone", new Stream().put(216), 0);
        fault("216, 255", new Stream().put(216, 255, 255, 217), 0);
        fault("255, 0", new Stream().put(255, 0, 255, 217), 0);
        fault("255, 255, 216", new Stream().put(255, 255, 216, 255, 217), 0);
        fault("0 before", new Stream().put(0, 255, 216, 255, 217), 0);
        good("255, 216, 255, 217", new Stream().put(255, 216, 255, 217), 0);
    }

    /** "the byte that should be 255" */
    private static void theByteThatShouldBe255() {
        for (int b = 0; b < 255; b++) {
            fault("behind 216: " + b, Stream.begin().put(b, 255, 217), 2);
            fault("behind a marker that is alone: " + b, Stream.begin().put(255, 208, b, 255, 217), 4);
            fault("behind a length: " + b, Stream.begin().put(255, 224, 0, 3, 9, b, 217), 7);
        }
    }

    /** "m" */
    private static void theMarkerItself() {
        for (int m : new int[] {0, 216, 193, 195, 197, 198, 199, 201, 202, 203, 205, 206, 207}) {
            fault("m " + m, Stream.begin().put(255, m, 0, 2, 255, 217), 3);
            fault("m " + m + " behind more 255", Stream.begin().put(255, 255, 255, m, 0, 2, 255, 217), 5);
            fault("m " + m + " as the last byte", Stream.begin().put(255, m), 3);
        }
        for (int m : new int[] {2, 191, 200, 204, 220, 222, 223, 224, 239, 240, 253, 254}) {
            good("m " + m + " is passed", Stream.begin().put(255, m, 0, 2, 255, 217), 0);
        }
        for (int m : new int[] {1, 208, 209, 210, 211, 212, 213, 214, 215}) {
            good("m " + m + " is alone", Stream.begin().put(255, m, 255, 217), 0);
        }
    }

    /** "or the size, when bytes end" */
    private static void theSizeWhenBytesEnd() {
        fault("behind 216", Stream.begin(), 2);
        fault("behind 255", Stream.begin().put(255), 3);
        fault("behind 255, 255", Stream.begin().put(255, 255), 4);
        fault("behind one that is alone", Stream.begin().put(255, 1), 4);
        fault("behind a length's bytes", Stream.begin().put(255, 224, 0, 3, 9), 7);
        fault("behind a frame", Stream.begin().frame(192, 8, 8), 15);
        fault("behind a scan's head", Stream.begin().frame(192, 8, 8).scan(1, 0, 63, 0, 0), 25);
        fault("in data", small().prefix(30), 30);
        fault("behind data", small().prefix(35), 35);
        fault("behind data and 255", small().prefix(36), 36);
    }

    /** "of a length that is below 2" */
    private static void lengthBelow2() {
        for (int m : new int[] {192, 194, 196, 219, 220, 221, 224, 254, 2}) {
            fault("0 of " + m, Stream.begin().put(255, m, 0, 0, 255, 217), 4);
            fault("1 of " + m, Stream.begin().put(255, m, 0, 1, 255, 217), 4);
            fault("1 of " + m + " behind more 255", Stream.begin().put(255, 255, m, 0, 1, 255, 217), 5);
        }
        fault("0 of a scan", Stream.begin().frame(192, 8, 8).segment(218, 0).end(), 17);
        fault("1 of a scan", Stream.begin().frame(192, 8, 8).segment(218, 1).end(), 17);
        for (int m : new int[] {196, 219, 220, 224, 254, 2}) {
            good("2 of " + m, Stream.begin().put(255, m, 0, 2, 255, 217), 0);
        }
    }

    /** "or beyond the bytes" */
    private static void lengthBeyondTheBytes() {
        for (int m : new int[] {192, 194, 196, 219, 220, 221, 224}) {
            fault("a byte more than there are, of " + m, Stream.begin().put(255, m, 0, 4, 9), 4);
            fault("256 more, of " + m, Stream.begin().put(255, m, 1, 2, 255, 217), 4);
            fault("65535 of " + m, Stream.begin().put(255, m, 255, 255, 255, 217), 4);
            fault("none of " + m, Stream.begin().put(255, m), 4);
        }
        fault("just all there are", Stream.begin().put(255, 224, 0, 4, 255, 217), 8);
        Stream most = Stream.begin().segment(224, 1994);
        while (most.size() < 1998) {
            most.put(0);
        }
        good("as long as it can be", most.copy().put(255, 217), 0);
        fault("one more", most.copy().change(5, 1997 % 256).put(255, 217), 4);
    }

    /** "or not what it must be: its own" */
    private static void lengthThatIsNotWhatItMustBe() {
        for (int length : new int[] {2, 3, 5, 6}) {
            fault("interval of " + length, Stream.begin().segment(221, length).put(0, 0, 0, 0).end(), 4);
        }
        good("interval of 4", Stream.begin().segment(221, 4).put(255, 255).end(), 0);
        for (int length = 2; length < 20; length++) {
            if (length != 11) {
                Stream stream = Stream.begin().frame(192, 8, 8).put(0, 0, 0, 0, 0, 0, 0, 0, 0).change(5, length).end();
                fault("frame of one band, length " + length, stream, 4);
            }
            if (length != 17) {
                Stream stream = Stream.begin().frameOfThree(194, 8, 8, 17, 17, 17).put(0, 0, 0).change(5, length).end();
                fault("frame of three bands, length " + length, stream, 4);
            }
            if (length != 8) {
                Stream stream = Stream.begin().frame(192, 8, 8).scan(1, 0, 63, 0, 0);
                fault("scan of one band, length " + length, stream.put(new int[12]).change(18, length).end(), 17);
            }
            if (length != 12) {
                Stream stream = Stream.begin().frameOfThree(192, 8, 8, 17, 17, 17).scanOfThree(0, 63, 0, 0);
                fault("scan of three bands, length " + length, stream.put(new int[12]).change(24, length).end(), 23);
            }
        }
    }

    private static Stream tables(int count) {
        return Stream.begin().segment(219, 2 + 65 * count);
    }

    /** "a table's .. first byte (its number" */
    private static void tableNumber() {
        for (int number = 0; number < 256; number++) {
            Stream one = tables(1).table(number, -1).end();
            CHECK.same("table " + number, one.answer(), number < 4 ? 0 : -1 - 6);
            Stream third = tables(3).table(3, -1).table(3, -1).table(number, -1).end();
            CHECK.same("third table " + number, third.answer(), number < 4 ? 0 : -1 - 136);
        }
    }

    /** "not all there" */
    private static void tableNotAllThere() {
        for (int missing = 1; missing <= 64; missing++) {
            fault("table without " + missing, Stream.begin().segment(219, 67 - missing).table(0, -1).end(), 6);
            fault("second table without " + missing, Stream.begin().segment(219, 132 - missing).table(0, -1).table(1, -1).end(), 71);
        }
    }

    /** "a number 0 in it" */
    private static void numberZeroInATable() {
        for (int i = 0; i < 64; i++) {
            fault("number " + i, tables(1).table(0, i).end(), 6);
            fault("number " + i + " of the second", tables(2).table(3, -1).table(2, i).end(), 71);
        }
    }

    /** "or code's first byte (its number" */
    private static void codesNumber() {
        for (int kind = 0; kind < 256; kind++) {
            boolean known = kind / 16 < 2 && kind % 16 < 4;
            CHECK.same("codes " + kind, Stream.begin().segment(196, 20).codes(kind, 1).end().answer(), known ? 0 : -1 - 6);
            Stream second = Stream.begin().segment(196, 38).codes(0x13, 1).codes(kind, 1).end();
            CHECK.same("second codes " + kind, second.answer(), known ? 0 : -1 - 24);
        }
    }

    private static void codesNotAllThere() {
        for (int missing = 1; missing <= 18; missing++) {
            fault("codes without " + missing, Stream.begin().segment(196, 21 - missing).codes(0, 1, 1).end(), 6);
            fault("second without " + missing, Stream.begin().segment(196, 40 - missing).codes(0, 1, 1).codes(16, 1, 1).end(), 25);
        }
    }

    /** "more codes than there are bits" */
    private static void moreCodesThanBits() {
        for (int bits = 1; bits <= 7; bits++) {
            int[] counts = new int[16];
            counts[bits - 1] = 1 << bits;
            good("all of " + bits, Stream.begin().segment(196, 19 + (1 << bits)).codes(0, counts).end(), 0);
            counts[15] = 1;
            fault("all of " + bits + " and one of 16", Stream.begin().segment(196, 20 + (1 << bits)).codes(0, counts).end(), 6);
            counts[15] = 0;
            counts[bits - 1]++;
            fault("one more of " + bits, Stream.begin().segment(196, 20 + (1 << bits)).codes(0, counts).end(), 6);
        }
        int[] chain = {1, 1, 1, 1, 1, 1, 1, 1, 1, 1, 1, 1, 1, 1, 1, 2};
        good("one of each, two of 16", Stream.begin().segment(196, 19 + 17).codes(0, chain).end(), 0);
        chain[15] = 3;
        fault("three of 16", Stream.begin().segment(196, 19 + 18).codes(0, chain).end(), 6);
    }

    /** "or than 256" */
    private static void moreCodesThan256() {
        good("256", Stream.begin().segment(196, 19 + 256).codes(0, 0, 0, 0, 0, 0, 0, 0, 0, 255, 1).end(), 0);
        fault("257", Stream.begin().segment(196, 19 + 257).codes(0, 0, 0, 0, 0, 0, 0, 0, 0, 255, 2).end(), 6);
        fault("510", Stream.begin().segment(196, 19 + 510).codes(0, 0, 0, 0, 0, 0, 0, 0, 0, 255, 255).end(), 6);
        Stream second = Stream.begin().segment(196, 2 + 18 + 17 + 257).codes(1, 1);
        fault("257 of the second", second.codes(0, 0, 0, 0, 0, 0, 0, 0, 0, 0, 0, 0, 0, 0, 0, 255, 2).end(), 24);
    }

    /** "of a frame and scan: the byte that is wrong" */
    private static void theByteOfAFrame() {
        Stream three = Stream.begin().frameOfThree(192, 8, 8, 17, 17, 17).end();
        for (int b = 0; b < 256; b++) {
            boolean size = b == 0x11 || b == 0x12 || b == 0x21 || b == 0x22;
            CHECK.same("the byte 8 as " + b, three.copy().change(6, b).answer(), b == 8 ? 8 : -1 - 6);
            CHECK.same("height " + b, three.copy().change(8, b).answer(), b >= 1 && b <= 64 ? b : -1 - 7);
            CHECK.same("height of 256 times " + b, three.copy().change(7, b).answer(), b == 0 ? 8 : -1 - 7);
            CHECK.same("width " + b, three.copy().change(10, b).answer(), b >= 1 && b <= 64 ? 8 : -1 - 9);
            CHECK.same("width of 256 times " + b, three.copy().change(9, b).answer(), b == 0 ? 8 : -1 - 9);
            for (int i = 0; i < 3; i++) {
                int at = 12 + 3 * i;
                CHECK.same("h and v as " + b, three.copy().change(at + 1, b).answer(), size ? 8 : -1 - at - 1);
                CHECK.same("table " + b, three.copy().change(at + 2, b).answer(), b < 4 ? 8 : -1 - at - 2);
            }
            CHECK.same("second name " + b, three.copy().change(15, b).answer(), b == 1 ? -1 - 15 : b == 3 ? -1 - 18 : 8);
            CHECK.same("third name " + b, three.copy().change(18, b).answer(), b == 1 || b == 2 ? -1 - 18 : 8);
        }
        fault("no band", Stream.begin().segment(192, 8).put(8, 0, 8, 0, 8, 0).end(), 11);
        fault("two bands", Stream.begin().segment(192, 14).put(8, 0, 8, 0, 8, 2, 1, 17, 0, 2, 17, 0).end(), 11);
        fault("four bands", Stream.begin().segment(194, 20).put(8, 0, 8, 0, 8, 4, 1, 17, 0, 2, 17, 0, 3, 17, 0, 4, 17, 0).end(), 11);
    }

    private static void theByteOfAScan() {
        Stream three = Stream.begin().frameOfThree(192, 8, 8, 17, 17, 17).scanOfThree(0, 63, 0, 0).flat(0).flat(0).flat(0).end();
        Stream one = Stream.begin().frameOfThree(192, 8, 8, 17, 17, 17).scan(2, 0, 63, 0, 0).flat(0).end();
        for (int b = 0; b < 256; b++) {
            boolean numbers = b / 16 < 4 && b % 16 < 4;
            for (int i = 0; i < 3; i++) {
                int at = 26 + 2 * i;
                CHECK.same("name " + b, three.copy().change(at, b).answer(), b == i + 1 ? 8 : -1 - at);
                CHECK.same("codes " + b, three.copy().change(at + 1, b).answer(), numbers ? 8 : -1 - at - 1);
            }
            CHECK.same("the only name " + b, one.copy().change(26, b).answer(), b >= 1 && b <= 3 ? 8 : -1 - 26);
            CHECK.same("its codes " + b, one.copy().change(27, b).answer(), numbers ? 8 : -1 - 27);
        }
        Stream frame = Stream.begin().frameOfThree(192, 8, 8, 17, 17, 17);
        fault("no band", frame.copy().segment(218, 6).put(0, 0, 63, 0).end(), 25);
        fault("two bands", frame.copy().segment(218, 10).put(2, 1, 0, 2, 0, 0, 63, 0).end(), 25);
        fault("four bands", frame.copy().segment(218, 14).put(4, 1, 0, 2, 0, 3, 0, 3, 0, 0, 63, 0).end(), 25);
        fault("three bands of one", Stream.begin().frame(192, 8, 8).segment(218, 12).put(3, 1, 0, 1, 0, 1, 0, 0, 63, 0).end(), 19);
    }

    /** "(of from, to and the last one: from's" */
    private static void fromOfFromToAndTheLast() {
        Stream whole = Stream.begin().frame(192, 8, 8).scan(1, 0, 63, 0, 0).flat(0).end();
        Stream byAndBy = Stream.begin().frame(194, 8, 8).scan(1, 0, 0, 0, 0).flat(0).end();
        for (int b = 0; b < 256; b++) {
            CHECK.same("from " + b, whole.copy().change(22, b).answer(), b == 0 ? 8 : -1 - 22);
            CHECK.same("to " + b, whole.copy().change(23, b).answer(), b == 63 ? 8 : -1 - 22);
            CHECK.same("the last one " + b, whole.copy().change(24, b).answer(), b == 0 ? 8 : -1 - 22);
            CHECK.same("from " + b + " of 194", byAndBy.copy().change(22, b).answer(), b == 0 ? 8 : -1 - 22);
            CHECK.same("to " + b + " of 194", byAndBy.copy().change(23, b).answer(), b == 0 ? 8 : -1 - 22);
            boolean range = b >= 1 && b <= 63;
            CHECK.same("1 to " + b, byAndBy.copy().change(22, 1).change(23, b).answer(), range ? 8 : -1 - 22);
            CHECK.same(b + " to 63", byAndBy.copy().change(22, b).change(23, 63).answer(), range ? 8 : -1 - 22);
            CHECK.same("40 to " + b, byAndBy.copy().change(22, 40).change(23, b).answer(), range && b >= 40 ? 8 : -1 - 22);
        }
        Stream three = Stream.begin().frameOfThree(194, 8, 8, 17, 17, 17);
        fault("1 to 5 of all bands", three.copy().scanOfThree(1, 5, 0, 0).end(), 32);
        good("0 to 0 of all bands", three.copy().scanOfThree(0, 0, 0, 0).end(), 8);
        good("1 to 5 of one band", three.copy().scan(3, 1, 5, 0, 0).end(), 8);
    }

    /** "a second frame .. : m" */
    private static void secondFrame() {
        for (int first : new int[] {192, 194}) {
            for (int second : new int[] {192, 194}) {
                fault("second", Stream.begin().frame(first, 8, 8).frame(second, 8, 8).end(), 16);
                fault("behind more 255", Stream.begin().frame(first, 8, 8).put(255, 255).frame(second, 8, 8).end(), 18);
                fault("without a length", Stream.begin().frame(first, 8, 8).put(255, second), 16);
            }
        }
        Stream behindAScan = small().prefix(35).frame(192, 8, 8).end();
        fault("behind a scan", behindAScan, 36);
    }

    /** "a scan without one: m" */
    private static void scanWithoutAFrame() {
        fault("at once", Stream.begin().scan(1, 0, 63, 0, 0).end(), 3);
        fault("behind more 255", Stream.begin().put(255, 255).scan(1, 0, 63, 0, 0).end(), 5);
        fault("before the frame", Stream.begin().scan(1, 0, 63, 0, 0).flat(1).fill().frame(192, 8, 8).end(), 3);
        fault("without a length", Stream.begin().put(255, 218), 3);
    }

    /** "height 0 that is not told, or not as 1 .. 64: the height's" */
    private static void heightThatIsNotTold() {
        Stream stream = Stream.begin().frame(192, 8, 0);
        fault("not told", stream.copy().end(), 7);
        fault("told before alone", Stream.begin().put(255, 220, 0, 4, 0, 8).frame(192, 8, 0).end(), 13);
        for (int high = 0; high < 256; high += 5) {
            for (int low = 0; low < 256; low++) {
                boolean fits = high == 0 && low >= 1 && low <= 64;
                int answer = stream.copy().put(255, 220, 0, 4, high, low).end().answer();
                CHECK.same("told as " + high + " " + low, answer, fits ? low : -1 - 7);
            }
        }
    }

    /** The place of a fault when a byte is changed in one bit; 100 and more: rows, without a fault. */
    private static void everyByteChanged() {
        int[] by64 = {0, 0, 2, 16, 4, 4, 6, 7, 7, 9, 9, 11, 20, 13, 14, 15, 25, 17, 17, 19, 20, 21, 22, 22, 22};
        int[] by1 = {0, 0, 2, 3, 4, 4, 6, 7, 109, 9, 108, 11, 20, 13, 108, 15, 19, 17, 17, 19, 20, 108, 22, 22, 22};
        for (int i = 0; i < by64.length; i++) {
            int value = small().at(i);
            CHECK.same("byte " + i + " by 64", small().change(i, value ^ 64).answer(), by64[i] >= 100 ? by64[i] - 100 : -1 - by64[i]);
            CHECK.same("byte " + i + " by 1", small().change(i, value ^ 1).answer(), by1[i] >= 100 ? by1[i] - 100 : -1 - by1[i]);
        }
        for (int i = 25; i < 35; i++) {
            for (int bit = 1; bit < 256; bit *= 2) {
                good("data byte " + i, small().change(i, small().at(i) ^ bit), 8);
            }
        }
        fault("255 of the end", small().change(35, 254), 37);
        fault("217 as 153, without a length", small().change(36, 153), 37);
        fault("217 as 216", small().change(36, 216), 36);
    }

    private static void everyPrefix() {
        List<int[]> parts = new ArrayList<>();
        Stream stream = allKinds(Stream.begin(), parts);
        good("whole", stream, 8);
        for (int size = 0; size < stream.size(); size++) {
            fault("the first " + size, stream.prefix(size), placeWhenCut(size, parts));
        }
    }

    /** The same where bytes that are passed come before, so many that the 2,000th is the last one. */
    private static void everyPrefixOfAFullObject() {
        int whole = allKinds(Stream.begin(), new ArrayList<>()).size();
        for (int size = 2; size <= whole; size++) {
            List<int[]> parts = new ArrayList<>();
            int before = 2000 - size;
            Stream stream = Stream.begin().segment(224, before - 2).put(new int[before - 4]);
            allKinds(stream, parts);
            if (size < whole) {
                fault("the first 2,000 of " + stream.size(), stream.prefix(2000), placeWhenCut(2000, parts));
            } else {
                good("all 2,000", stream, 8);
            }
        }
        for (int last = 0; last < 256; last++) {
            Stream data = Stream.begin().frame(192, 64, 64).scan(1, 0, 63, 0, 0);
            while (data.size() < 1999) {
                data.put(data.size() % 2 == 1 ? 8 : 200);
            }
            fault("data to the last byte, " + last, data.put(last), 2000);
        }
    }

    /** "The bytes are taken (also with a FAULT) .. and there is no picture." */
    private static void bytesAreTakenAndNoPictureIsThere() {
        DctFilter x = small().given();
        CHECK.same("read", x.read(), 8);
        CHECK.same("taken", x.read(), -1);
        small().giveTo(x);
        CHECK.same("read again", x.read(), 8);
        small().change(36, 216).giveTo(x);
        CHECK.same("a fault at the very end", x.read(), -37);
        for (int what = 0; what < 6; what++) {
            CHECK.same("no picture " + what, x.told(-1, what), 0);
        }
        CHECK.refused("no block", IndexOutOfBoundsException.class, () -> x.told(0, 0));
        CHECK.refused("no sample", IndexOutOfBoundsException.class, () -> x.sample(0, 0, 0));
        CHECK.refused("no coefficient", ArrayIndexOutOfBoundsException.class, () -> x.coefficient(0, 0));
        CHECK.refused("no exact", ArrayIndexOutOfBoundsException.class, () -> x.exact(0, 0));
        CHECK.same("taken with the fault", x.read(), -1);
        Stream.begin().put(255, 217).giveTo(x);
        CHECK.same("0 without a frame", x.read(), 0);
        CHECK.same("and no picture", x.told(-1, 3), 0);
    }
}
