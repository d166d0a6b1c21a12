import java.util.ArrayList;
import java.util.List;

/** What promises 8 to 12 say of the least and greatest arguments and of calls that are refused. */
final class SentencesOfCallsTest {
    private static final Check CHECK = new Check();
    private static final int[] FAR = {Integer.MIN_VALUE, Integer.MIN_VALUE + 1, -257, -256, 256 + 5, 512, 65536, 1 << 26, 1 << 30,
        Integer.MAX_VALUE - 1, Integer.MAX_VALUE};

    public static void main(String[] args) {
        tableNumbers();
        tableStaysByMinus1();
        tablePlaces();
        pointPlaces();
        pointValues();
        pointsAre0AtFirst();
        scanFromAndTo();
        scanBit();
        scanWhenThereAreTen();
        scanFromAbove0BeforeFrom0();
        scanOfSomeThatHaveNone();
        scanOfTheBitOneAbove();
        scanThatIsRefusedIsNotTold();
        scansForTheNextWritingAlone();
        restartNumbers();
        encodeQualities();
        encodeWithoutAPoint();
        theExceptionNamedFirst();
        CHECK.end();
    }

    /** "(1 .. 255" */
    private static void tableNumbers() {
        DctFilter x = new DctFilter();
        int before = 16;
        for (int v = 1; v <= 255; v++) {
            CHECK.same("table " + v, x.table(2, 7, v), before);
            before = v;
        }
        CHECK.refused("0", IllegalArgumentException.class, () -> x.table(2, 7, 0));
        CHECK.refused("256", IllegalArgumentException.class, () -> x.table(2, 7, 256));
        CHECK.refused("-2", IllegalArgumentException.class, () -> x.table(2, 7, -2));
        for (int v : FAR) {
            CHECK.refused("far " + v, IllegalArgumentException.class, () -> x.table(2, 7, v));
        }
        CHECK.same("as it was", x.table(2, 7, -1), 255);
    }

    /** "-1: stays)" */
    private static void tableStaysByMinus1() {
        DctFilter x = new DctFilter();
        CHECK.same("at first", x.table(0, 0, -1), 16);
        CHECK.same("again", x.table(0, 0, -1), 16);
        CHECK.same("told", x.table(0, 0, 40), 16);
        CHECK.same("stays", x.table(0, 0, -1), 40);
        CHECK.same("stays", x.table(0, 0, -1), 40);
    }

    /** "Number i of table kind (0 .. 3)" */
    private static void tablePlaces() {
        DctFilter x = new DctFilter();
        int[] ends = {0, 63};
        for (int kind = 0; kind < 4; kind++) {
            for (int i : ends) {
                CHECK.same("there", x.table(kind, i, 100 + kind), 16);
            }
        }
        for (int kind = 0; kind < 4; kind++) {
            for (int i : ends) {
                CHECK.same("each its own", x.table(kind, i, -1), 100 + kind);
            }
            CHECK.same("not the next", x.table(kind, 1, -1), 16);
        }
        List<int[]> outside = new ArrayList<>(List.of(new int[] {-1, 0}, new int[] {4, 0}, new int[] {0, -1}, new int[] {0, 64},
                new int[] {-1, 64}, new int[] {4, -64}));
        for (int far : FAR) {
            outside.add(new int[] {far, 0});
            outside.add(new int[] {3, far});
        }
        for (int[] at : outside) {
            for (int v : new int[] {-1, 1, 255, 0, 256}) {
                CHECK.refused("table " + at[0] + " " + at[1], IndexOutOfBoundsException.class, () -> x.table(at[0], at[1], v));
            }
        }
    }

    /** "(x, y 0 .. 31)" */
    private static void pointPlaces() {
        DctFilter x = new DctFilter();
        List<int[]> outside = new ArrayList<>(List.of(new int[] {-1, 0}, new int[] {32, 0}, new int[] {0, -1}, new int[] {0, 32},
                new int[] {-1, 32}, new int[] {32, -1}));
        for (int far : FAR) {
            outside.add(new int[] {far, 0});
            outside.add(new int[] {31, far});
        }
        for (int[] at : outside) {
            for (int v : new int[] {0, 255, -1, 256}) {
                CHECK.refused("point " + at[0] + " " + at[1], IndexOutOfBoundsException.class, () -> x.point(at[0], at[1], v));
            }
        }
        CHECK.refused("none was put", IllegalStateException.class, () -> x.encode(50));
        CHECK.same("0, 0", x.point(0, 0, 1), 0);
        x.encode(50);
        CHECK.same("height 1", x.octet(77), 1);
        CHECK.same("width 1", x.octet(79), 1);
        CHECK.same("31, 0", x.point(31, 0, 2), 0);
        x.encode(50);
        CHECK.same("height 1", x.octet(77), 1);
        CHECK.same("width 32", x.octet(79), 32);
        CHECK.same("0, 31", x.point(0, 31, 3), 0);
        CHECK.same("31, 31", x.point(31, 31, 4), 0);
        x.encode(50);
        CHECK.same("height 32", x.octet(77), 32);
        CHECK.same("each its own", x.point(0, 0, 0), 1);
        CHECK.same("each its own", x.point(31, 0, 0), 2);
        CHECK.same("each its own", x.point(0, 31, 0), 3);
        CHECK.same("each its own", x.point(31, 31, 0), 4);
    }

    /** "(0 .. 255" */
    private static void pointValues() {
        DctFilter x = new DctFilter();
        int before = 0;
        for (int v = 0; v <= 255; v++) {
            CHECK.same("point " + v, x.point(4, 5, v), before);
            before = v;
        }
        CHECK.refused("-1", IllegalArgumentException.class, () -> x.point(31, 31, -1));
        CHECK.refused("256", IllegalArgumentException.class, () -> x.point(31, 31, 256));
        for (int v : FAR) {
            CHECK.refused("far " + v, IllegalArgumentException.class, () -> x.point(31, 31, v));
        }
        x.encode(50);
        CHECK.same("the canvas is as high as before", x.octet(77), 6);
        CHECK.same("and as wide", x.octet(79), 5);
        CHECK.same("what it was", x.point(4, 5, 9), 255);
    }

    /** "others are 0 at first" */
    private static void pointsAre0AtFirst() {
        DctFilter x = new DctFilter();
        DctFilter y = new DctFilter();
        x.point(6, 6, 90);
        for (int i = 0; i < 48; i++) {
            y.point(i % 7, i / 7, 0);
        }
        y.point(6, 6, 90);
        int count = x.encode(60);
        CHECK.same("alike", y.encode(60), count);
        for (int i = 0; i < count; i++) {
            CHECK.same("octet " + i, x.octet(i), y.octet(i));
        }
        for (int i = 0; i < 100; i++) {
            CHECK.same("0", x.point(31 - i % 10, 31 - i / 10, 1), 0);
        }
    }

    /** "0 .. when from, to are not 0, 0, or 1 <= from <= to <= 63" */
    private static void scanFromAndTo() {
        for (int from = -2; from <= 66; from++) {
            for (int to = -2; to <= 66; to++) {
                DctFilter x = new DctFilter();
                boolean first = from == 0 && to == 0;
                boolean others = 1 <= from && from <= to && to <= 63;
                CHECK.same("first " + from + " " + to, x.scan(from, to, 0), first ? 1 : 0);
                DctFilter y = new DctFilter();
                y.scan(0, 0, 1);
                CHECK.same("then " + from + " " + to, y.scan(from, to, 0), first || others ? 2 : 0);
            }
        }
        DctFilter all = new DctFilter();
        all.scan(0, 0, 1);
        all.scan(1, 63, 1);
        for (int to = 1; to <= 63; to++) {
            CHECK.same("0 to " + to + ", though all have the bit one above", all.scan(0, to, 0), 0);
        }
        CHECK.same("1 to 63", all.scan(1, 63, 0), 3);
        for (int far : FAR) {
            DctFilter x = new DctFilter();
            x.scan(0, 0, 0);
            CHECK.same("from " + far, x.scan(far, 63, 0), 0);
            CHECK.same("to " + far, x.scan(1, far, 0), 0);
            CHECK.same("both " + far, x.scan(far, far, 0), 0);
        }
    }

    /** "bit not 0 .. 3" */
    private static void scanBit() {
        for (int bit = -3; bit <= 8; bit++) {
            CHECK.same("bit " + bit, new DctFilter().scan(0, 0, bit), bit >= 0 && bit <= 3 ? 1 : 0);
            DctFilter x = new DctFilter();
            x.scan(0, 0, 0);
            CHECK.same("bit of others " + bit, x.scan(1, 63, bit), bit >= 0 && bit <= 3 ? 2 : 0);
        }
        for (int far : FAR) {
            CHECK.same("bit " + far, new DctFilter().scan(0, 0, far), 0);
        }
        DctFilter x = new DctFilter();
        x.scan(0, 0, 0);
        CHECK.same("one below 0", x.scan(0, 0, -1), 0);
    }

    /** "there are 10" */
    private static void scanWhenThereAreTen() {
        DctFilter x = new DctFilter();
        for (int bit = 3; bit >= 0; bit--) {
            CHECK.same("first, bit " + bit, x.scan(0, 0, bit), 4 - bit);
        }
        for (int i = 1; i <= 6; i++) {
            CHECK.same("others " + i, x.scan(i, i, 3), 4 + i);
        }
        CHECK.same("an eleventh", x.scan(7, 7, 3), 0);
        CHECK.same("an eleventh of a bit below", x.scan(1, 6, 2), 0);
        x.point(0, 0, 50);
        x.encode(50);
        x.take();
        x.read();
        CHECK.same("ten are written", x.told(-1, 4), 10);
    }

    /** "for from > 0 none from 0 was told" */
    private static void scanFromAbove0BeforeFrom0() {
        DctFilter x = new DctFilter();
        CHECK.same("1 to 63", x.scan(1, 63, 3), 0);
        CHECK.same("63 to 63", x.scan(63, 63, 0), 0);
        CHECK.same("0 to 0", x.scan(0, 0, 3), 1);
        CHECK.same("any bit of 0 is enough", x.scan(1, 63, 0), 2);
        CHECK.same("what was refused was not told", x.scan(63, 63, 0), 0);
    }

    /** "or of coefficients from .. to not all have none yet (then high is 0)" */
    private static void scanOfSomeThatHaveNone() {
        DctFilter x = new DctFilter();
        x.scan(0, 0, 0);
        CHECK.same("5 to 8", x.scan(5, 8, 1), 2);
        CHECK.same("1 to 5", x.scan(1, 5, 1), 0);
        CHECK.same("1 to 5, a bit below", x.scan(1, 5, 0), 0);
        CHECK.same("8 to 9", x.scan(8, 9, 0), 0);
        CHECK.same("4 to 9", x.scan(4, 9, 0), 0);
        CHECK.same("1 to 4", x.scan(1, 4, 2), 3);
        CHECK.same("9 to 63", x.scan(9, 63, 0), 4);
        CHECK.same("4 to 5 have bits 2 and 1", x.scan(4, 5, 1), 0);
        CHECK.same("8 to 9 have bits 1 and 0", x.scan(8, 9, 0), 0);
    }

    /** "or the bit one above (then high is that)" */
    private static void scanOfTheBitOneAbove() {
        for (int high = 0; high <= 3; high++) {
            for (int bit = -1; bit <= 4; bit++) {
                DctFilter x = new DctFilter();
                x.scan(0, 0, high);
                CHECK.same(bit + " behind " + high, x.scan(0, 0, bit), bit >= 0 && bit == high - 1 ? 2 : 0);
                DctFilter y = new DctFilter();
                y.scan(0, 0, 0);
                y.scan(2, 9, high);
                CHECK.same("others " + bit + " behind " + high, y.scan(2, 9, bit), bit >= 0 && bit == high - 1 ? 3 : 0);
                DctFilter z = new DctFilter();
                z.scan(0, 0, 0);
                z.scan(2, 5, high);
                z.scan(6, 9, high);
                CHECK.same("of two " + bit + " behind " + high, z.scan(2, 9, bit), bit >= 0 && bit == high - 1 ? 4 : 0);
            }
        }
    }

    /** The bytes from, to and 16 high + low of each scan that is written. */
    private static void written(DctFilter x, int[]... due) {
        int count = x.encode(50);
        int found = 0;
        for (int i = 0; i + 9 < count; i++) {
            boolean scan = x.octet(i) == -1 && x.octet(i + 1) == (byte) 218 && x.octet(i + 2) == 0 && x.octet(i + 3) == 8;
            if (scan && found < due.length) {
                for (int j = 0; j < 3; j++) {
                    CHECK.same("scan " + found + " byte " + j, x.octet(i + 7 + j), due[found][j]);
                }
            }
            found += scan ? 1 : 0;
        }
        CHECK.same("scans", found, due.length);
    }

    /** "0, and it is not" */
    private static void scanThatIsRefusedIsNotTold() {
        DctFilter x = new DctFilter();
        x.point(3, 3, 200);
        x.scan(0, 0, 2);
        x.scan(0, 0, 0);
        x.scan(1, 5, 3);
        x.scan(1, 6, 2);
        x.scan(0, 0, 1);
        x.scan(1, 5, 1);
        x.scan(1, 5, 2);
        x.scan(0, 1, 0);
        x.scan(6, 63, 0);
        written(x, new int[] {0, 0, 2}, new int[] {1, 5, 3}, new int[] {0, 0, 0x21}, new int[] {1, 5, 0x32}, new int[] {6, 63, 0});
    }

    /** "for the next writing"; "scans are told no more" */
    private static void scansForTheNextWritingAlone() {
        DctFilter x = new DctFilter();
        x.point(3, 3, 200);
        x.scan(0, 0, 1);
        x.scan(1, 63, 0);
        written(x, new int[] {0, 0, 1}, new int[] {1, 63, 0});
        CHECK.same("by and by", x.octet(72), (byte) 194);
        written(x, new int[] {0, 63, 0});
        CHECK.same("in one go", x.octet(72), (byte) 192);
        CHECK.same("none from 0", x.scan(1, 63, 0), 0);
        CHECK.same("the first one", x.scan(0, 0, 3), 1);
        written(x, new int[] {0, 0, 3});
    }

    /** "The interval for writing, 0 .. 100: what it was." */
    private static void restartNumbers() {
        DctFilter x = new DctFilter();
        int before = 0;
        for (int n = 0; n <= 100; n++) {
            CHECK.same("restart " + n, x.restart(n), before);
            before = n;
        }
        CHECK.refused("-1", IllegalArgumentException.class, () -> x.restart(-1));
        CHECK.refused("101", IllegalArgumentException.class, () -> x.restart(101));
        for (int n : FAR) {
            CHECK.refused("far " + n, IllegalArgumentException.class, () -> x.restart(n));
        }
        x.point(0, 0, 1);
        x.encode(50);
        CHECK.same("221", x.octet(85), (byte) 221);
        CHECK.same("100", x.octet(89), 100);
        CHECK.same("as it was", x.restart(0), 100);
        x.encode(50);
        CHECK.same("none for 0", x.octet(85), (byte) 196);
    }

    /** "with a quality 1 .. 100" */
    private static void encodeQualities() {
        DctFilter x = new DctFilter();
        x.point(5, 5, 250);
        for (int quality = 1; quality <= 100; quality++) {
            CHECK.same("count", x.encode(quality), x.told(-1, 6));
        }
        int count = x.told(-1, 6);
        CHECK.refused("0", IllegalArgumentException.class, () -> x.encode(0));
        CHECK.refused("101", IllegalArgumentException.class, () -> x.encode(101));
        CHECK.refused("-1", IllegalArgumentException.class, () -> x.encode(-1));
        for (int quality : FAR) {
            CHECK.refused("far " + quality, IllegalArgumentException.class, () -> x.encode(quality));
        }
        CHECK.same("what was written is as it was", x.told(-1, 6), count);
    }

    /** "IllegalStateException when no point was put" */
    private static void encodeWithoutAPoint() {
        DctFilter x = new DctFilter();
        CHECK.refused("at first", IllegalStateException.class, () -> x.encode(1));
        x.table(0, 0, 9);
        x.restart(3);
        x.scan(0, 0, 0);
        Stream.begin().frame(192, 8, 8).end().giveTo(x);
        x.read();
        CHECK.refused("a picture is no canvas", IllegalStateException.class, () -> x.encode(100));
        CHECK.refused("a point that is refused", IllegalArgumentException.class, () -> x.point(0, 0, 256));
        CHECK.refused("is none", IllegalStateException.class, () -> x.encode(50));
        CHECK.same("nothing was written", x.told(-1, 6), 0);
        x.point(0, 0, 0);
        CHECK.same("0 is a point too", x.encode(50) > 0 ? 1 : 0, 1);
        CHECK.same("again", x.encode(50) > 0 ? 1 : 0, 1);
    }

    /** "where several exceptions that a call names fit, it is the one that it names first" */
    private static void theExceptionNamedFirst() {
        DctFilter x = new DctFilter();
        CHECK.refused("table", IndexOutOfBoundsException.class, () -> x.table(4, 0, 0));
        CHECK.refused("table", IndexOutOfBoundsException.class, () -> x.table(0, 64, 256));
        CHECK.refused("point", IndexOutOfBoundsException.class, () -> x.point(32, 0, 256));
        CHECK.refused("point", IndexOutOfBoundsException.class, () -> x.point(0, -1, -1));
        CHECK.refused("encode", IllegalArgumentException.class, () -> x.encode(0));
        CHECK.refused("encode", IllegalArgumentException.class, () -> x.encode(101));
        CHECK.refused("one alone", IllegalArgumentException.class, () -> x.table(3, 63, 0));
        CHECK.refused("one alone", IllegalArgumentException.class, () -> x.point(31, 31, 256));
        CHECK.refused("one alone", IllegalStateException.class, () -> x.encode(100));
    }
}
