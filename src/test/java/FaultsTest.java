/** Promise 3: where a fault is. */
final class FaultsTest {
    private static final Check CHECK = new Check();

    public static void main(String[] args) {
        beginning();
        markers();
        lengths();
        tables();
        codes();
        frames();
        heights();
        scans();
        CHECK.end();
    }

    private static void fault(String what, Stream stream, int place) {
        CHECK.same(what, stream.answer(), -1 - place);
    }

    private static void beginning() {
        fault("no bytes", new Stream(), 0);
        fault("one byte", new Stream().put(255), 0);
        fault("216 is wrong", new Stream().put(255, 217), 0);
        fault("255 is wrong", new Stream().put(254, 216, 255, 217), 0);
        fault("nothing behind", Stream.begin(), 2);
        fault("no second 255 to begin with", new Stream().put(255, 255, 216, 255, 217), 0);
    }

    private static void markers() {
        fault("not 255", Stream.begin().put(254, 217), 2);
        fault("not 255 behind one", Stream.begin().put(255, 1, 0, 255, 217), 4);
        fault("bytes end behind 255", Stream.begin().put(255), 3);
        fault("bytes end behind more of them", Stream.begin().put(255, 255, 255), 5);
        fault("0", Stream.begin().put(255, 0, 255, 217), 3);
        fault("216", Stream.begin().put(255, 255, 216), 4);
        for (int m : new int[] {193, 195, 197, 198, 199, 201, 202, 203, 205, 206, 207}) {
            fault("refused " + m, Stream.begin().put(255, m, 0, 2, 255, 217), 3);
            fault("refused " + m + " at the end", Stream.begin().put(255, m), 3);
        }
        for (int m = 2; m < 255; m++) {
            boolean known = m >= 192 && m <= 199 || m >= 201 && m <= 203 || m >= 205 && m <= 219 || m == 221;
            if (!known) {
                CHECK.same("passed " + m, Stream.begin().put(255, m, 0, 3, 255, 255, 217).answer(), 0);
            }
        }
        fault("the end is not there", Stream.begin().frame(192, 8, 8), 15);
        fault("the end is not there behind data", Stream.begin().frame(192, 8, 8).scan(1, 0, 63, 0, 0).flat(1).fill(), 28);
        fault("a lone 255 behind data", Stream.begin().frame(192, 8, 8).scan(1, 0, 63, 0, 0).flat(1).fill().put(255), 29);
        fault("0 behind more 255", Stream.begin().frame(192, 8, 8).scan(1, 0, 63, 0, 0).flat(1).fill().put(255, 255, 0), 30);
        fault("a second frame", Stream.begin().frame(192, 8, 8).frame(192, 8, 8).end(), 16);
        fault("a second frame by and by", Stream.begin().frame(192, 8, 8).frame(194, 8, 8).end(), 16);
        fault("a scan without a frame", Stream.begin().scan(1, 0, 63, 0, 0).end(), 3);
    }

    private static void lengths() {
        for (int m : new int[] {192, 194, 196, 219, 221, 224, 254, 220}) {
            fault("no length of " + m, Stream.begin().put(255, m), 4);
            fault("length 0 of " + m, Stream.begin().put(255, m, 0, 0, 255, 217), 4);
            fault("length 1 of " + m, Stream.begin().put(255, m, 0, 1, 255, 217), 4);
            fault("length beyond of " + m, Stream.begin().put(255, m, 0, 5, 255, 217), 4);
            fault("higher byte beyond of " + m, Stream.begin().put(255, m, 1, 2, 255, 217), 4);
        }
        fault("interval of length 3", Stream.begin().put(255, 221, 0, 3, 0, 255, 217), 4);
        fault("interval of length 2", Stream.begin().put(255, 221, 0, 2, 255, 217), 4);
        fault("interval of length 5", Stream.begin().put(255, 221, 0, 5, 0, 0, 0, 255, 217), 4);
        CHECK.same("length to the last byte", Stream.begin().put(255, 224, 0, 4, 1, 1, 255, 217).answer(), 0);
        for (int length : new int[] {2, 7, 8, 10, 12, 14, 17}) {
            Stream stream = Stream.begin().frame(192, 8, 8).put(0, 0, 0, 0, 0, 0, 0, 0).change(5, length);
            fault("frame of length " + length, stream.end(), 4);
        }
        for (int length : new int[] {2, 5, 6, 7, 9, 10, 12}) {
            Stream stream = Stream.begin().frame(192, 8, 8).scan(1, 0, 63, 0, 0).put(0, 0, 0, 0).change(18, length);
            fault("scan of length " + length, stream.end(), 17);
        }
    }

    private static void tables() {
        CHECK.same("a table", Stream.begin().put(255, 219, 0, 67).table(3, -1).end().answer(), 0);
        CHECK.same("two tables", Stream.begin().put(255, 219, 0, 132).table(0, -1).table(0, -1).end().answer(), 0);
        fault("number 4", Stream.begin().put(255, 219, 0, 67).table(4, -1).end(), 6);
        fault("number 16", Stream.begin().put(255, 219, 0, 67).table(16, -1).end(), 6);
        fault("number 4 of the second", Stream.begin().put(255, 219, 0, 132).table(0, -1).table(4, -1).end(), 71);
        fault("first 0", Stream.begin().put(255, 219, 0, 67).table(0, 0).end(), 6);
        fault("last 0", Stream.begin().put(255, 219, 0, 67).table(0, 63).end(), 6);
        fault("0 in the second", Stream.begin().put(255, 219, 0, 132).table(0, -1).table(1, 9).end(), 71);
        fault("not all there", Stream.begin().put(255, 219, 0, 66).table(0, -1).end(), 6);
        fault("a byte too much", Stream.begin().put(255, 219, 0, 68).table(0, -1).put(0).end(), 71);
        fault("a number alone", Stream.begin().put(255, 219, 0, 3, 0).end(), 6);
    }

    private static Stream segment(int length) {
        return Stream.begin().segment(196, length);
    }

    private static void codes() {
        CHECK.same("no codes at all", segment(19).codes(0).end().answer(), 0);
        CHECK.same("both of one bit", segment(21).codes(0x13, 2).end().answer(), 0);
        CHECK.same("255 of 8 bits, one of 9", segment(19 + 256).codes(3, 0, 0, 0, 0, 0, 0, 0, 255, 1).end().answer(), 0);
        fault("257 of 9 and more", segment(19 + 257).codes(3, 0, 0, 0, 0, 0, 0, 0, 0, 255, 2).end(), 6);
        for (int kind : new int[] {4, 15, 0x14, 0x20, 0x23, 255}) {
            fault("codes " + kind, segment(20).codes(kind, 1).end(), 6);
        }
        fault("three of one bit", segment(22).codes(0, 3).end(), 6);
        fault("two of one bit, one of two", segment(22).codes(0, 2, 1).end(), 6);
        fault("two of one bit, one of 16", segment(22).codes(0, 2, 0, 0, 0, 0, 0, 0, 0, 0, 0, 0, 0, 0, 0, 0, 1).end(), 6);
        fault("five of two bits", segment(24).codes(0, 0, 5).end(), 6);
        fault("not all symbols there", segment(20).codes(0, 2).end(), 6);
        fault("not all counts there", segment(18).codes(0).end(), 6);
        fault("a number alone", segment(3).put(0).end(), 6);
        CHECK.same("two", segment(2 + 18 + 19).codes(0, 1).codes(16, 2).end().answer(), 0);
        fault("the second is wrong", segment(2 + 18 + 20).codes(0, 1).codes(16, 3).end(), 24);
        fault("the second is not there", segment(21).codes(0, 1).put(0).end(), 24);
    }

    private static void frames() {
        int[][] wrong = {{6, 7, 6}, {6, 9, 6}, {6, 0, 6}, {7, 1, 7}, {8, 65, 7}, {8, 255, 7}, {9, 1, 9}, {10, 0, 9}, {10, 65, 9},
            {11, 0, 11}, {11, 2, 11}, {11, 4, 11}, {11, 255, 11}, {13, 0, 13}, {13, 1, 13}, {13, 16, 13}, {13, 0x31, 13},
            {13, 0x13, 13}, {13, 0x01, 13}, {13, 0x10, 13}, {14, 4, 14}, {14, 255, 14}};
        for (int marker : new int[] {192, 194}) {
            for (int[] one : wrong) {
                fault("frame byte " + one[0] + " " + one[1], Stream.begin().frame(marker, 8, 8).change(one[0], one[1]).end(), one[2]);
            }
        }
        for (int hv : new int[] {0x11, 0x12, 0x21, 0x22}) {
            CHECK.same("h and v " + hv, Stream.begin().frame(192, 8, 8).change(13, hv).end().answer(), 8);
        }
        Stream three = Stream.begin().frameOfThree(192, 64, 64, 17, 17, 17).end();
        CHECK.same("three bands", three.answer(), 64);
        fault("the second's name", three.copy().change(15, 1), 15);
        fault("the third's name", three.copy().change(18, 1), 18);
        fault("the third's name is the second's", three.copy().change(18, 2), 18);
        fault("the second's h", three.copy().change(16, 0x32), 16);
        fault("the third's v", three.copy().change(19, 0x23), 19);
        fault("the third's table", three.copy().change(20, 4), 20);
        fault("one band of length 17", three.copy().change(11, 1), 4);
        fault("the first fault of two", three.copy().change(10, 0).change(20, 4), 9);
        CHECK.same("names 0 and 255", three.copy().change(12, 0).change(15, 255).answer(), 64);
    }

    private static void heights() {
        Stream stream = Stream.begin().frame(192, 8, 0);
        fault("not told", stream.copy().end(), 7);
        fault("told as 0", stream.copy().put(255, 220, 0, 4, 0, 0).end(), 7);
        fault("told as 65", stream.copy().put(255, 220, 0, 4, 0, 65).end(), 7);
        fault("told as 256", stream.copy().put(255, 220, 0, 4, 1, 0).end(), 7);
        fault("told before", Stream.begin().put(255, 220, 0, 4, 0, 8).frame(192, 8, 0).end(), 13);
        fault("not all there", stream.copy().end().put(255, 220, 0, 4, 8), 7);
        fault("another length", stream.copy().put(255, 220, 0, 5, 0, 8, 0).end(), 7);
        fault("the first one is wrong", stream.copy().put(255, 220, 0, 4, 0, 0, 255, 220, 0, 4, 0, 9).end(), 7);
        CHECK.same("64", stream.copy().put(255, 220, 0, 4, 0, 64).end().answer(), 64);
        fault("width is wrong too", stream.copy().change(10, 0).put(255, 220, 0, 4, 0, 64).end(), 9);
    }

    private static void scans() {
        Stream whole = Stream.begin().frame(192, 8, 8).scan(1, 0, 63, 0, 0).flat(0).end();
        CHECK.same("whole", whole.answer(), 8);
        int[][] wrong = {{19, 0, 19}, {19, 2, 19}, {19, 3, 19}, {20, 2, 20}, {20, 0, 20}, {21, 4, 21}, {21, 0x40, 21}, {21, 255, 21},
            {22, 1, 22}, {23, 62, 22}, {23, 64, 22}, {23, 0, 22}, {24, 1, 22}, {24, 16, 22}, {24, 0x10, 22}};
        for (int[] one : wrong) {
            fault("scan byte " + one[0] + " " + one[1], whole.copy().change(one[0], one[1]), one[2]);
        }
        CHECK.same("other codes", whole.copy().change(21, 0x33).answer(), 8);
        int[][] good = {{0, 0, 0, 0}, {0, 0, 0, 13}, {0, 0, 1, 0}, {0, 0, 14, 13}, {1, 63, 0, 0}, {63, 63, 0, 13}, {1, 1, 3, 2}};
        for (int[] one : good) {
            CHECK.same("range", Stream.begin().frame(194, 8, 8).scan(1, one[0], one[1], one[2], one[3]).put(0, 0).end().answer(), 8);
        }
        int[][] bad = {{0, 1, 0, 0}, {0, 63, 0, 0}, {2, 1, 0, 0}, {1, 64, 0, 0}, {64, 64, 0, 0}, {1, 0, 0, 0}, {0, 0, 0, 14}, {0, 0, 15, 14},
            {0, 0, 2, 0}, {0, 0, 1, 1}, {1, 63, 1, 2}, {1, 63, 15, 13}, {1, 255, 0, 0}};
        for (int[] one : bad) {
            fault("range", Stream.begin().frame(194, 8, 8).scan(1, one[0], one[1], one[2], one[3]).put(0, 0).end(), 22);
        }
        scansOfThree();
    }

    private static void scansOfThree() {
        Stream three = Stream.begin().frameOfThree(192, 8, 8, 17, 17, 17).scanOfThree(0, 63, 0, 0).flat(0).flat(0).flat(0).end();
        CHECK.same("three bands", three.answer(), 8);
        fault("two bands", three.copy().change(25, 2), 25);
        fault("one band of length 12", three.copy().change(25, 1), 23);
        fault("not in their order", three.copy().change(26, 2).change(28, 1), 26);
        fault("the second one", three.copy().change(28, 3), 28);
        fault("the third one's codes", three.copy().change(31, 0x04), 31);
        fault("from", three.copy().change(32, 1), 32);
        Stream byAndBy = Stream.begin().frameOfThree(194, 8, 8, 17, 17, 17).scanOfThree(1, 63, 0, 0).end();
        fault("others of all bands", byAndBy, 32);
        CHECK.same("first ones of all bands", byAndBy.copy().change(32, 0).change(33, 0).answer(), 8);
        for (int name = 1; name <= 3; name++) {
            Stream one = Stream.begin().frameOfThree(192, 8, 8, 17, 17, 17).scan(name, 0, 63, 0, 0).flat(0).end();
            CHECK.same("band " + name, one.answer(), 8);
        }
        fault("no such band", Stream.begin().frameOfThree(192, 8, 8, 17, 17, 17).scan(4, 0, 63, 0, 0).end(), 26);
    }
}
