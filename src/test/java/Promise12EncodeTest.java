import java.util.Arrays;
import java.util.List;

/** Promise 12: encode. (WritingAgainstModelTest compares all bytes of many canvases.) */
final class Promise12EncodeTest {
    private static final Check CHECK = new Check();

    public static void main(String[] args) {
        wrongInputs();
        onePoint();
        qualities();
        extremes();
        scansInOneGo();
        longWriting();
        halves();
        CHECK.end();
    }

    private static void wrongInputs() {
        DctFilter x = new DctFilter();
        for (int quality : new int[] {0, 101, -1, Integer.MAX_VALUE, Integer.MIN_VALUE}) {
            CHECK.refused("quality is looked at first", IllegalArgumentException.class, () -> x.encode(quality));
        }
        CHECK.refused("no point", IllegalStateException.class, () -> x.encode(1));
        CHECK.refused("no point", IllegalStateException.class, () -> x.encode(100));
        x.point(0, 0, 0);
        int count = x.encode(1);
        CHECK.refused("quality 0", IllegalArgumentException.class, () -> x.encode(0));
        CHECK.same("what was written stays", x.told(-1, 6), count);
        CHECK.same("first byte stays", x.octet(0), -1);
    }

    /** A point of 136 alone is a block of 136: the first coefficient is 64 / 16 = 4, and nothing more. */
    private static void onePoint() {
        DctFilter x = new DctFilter();
        x.point(0, 0, 136);
        int[] head = {255, 216, 255, 219, 0, 67, 0};
        int[] frame = {255, 192, 0, 11, 8, 0, 1, 0, 1, 1, 1, 17, 0};
        int[] first = {255, 196, 0, 20, 0, 1, 0, 0, 0, 0, 0, 0, 0, 0, 0, 0, 0, 0, 0, 0, 0, 3};
        int[] others = {255, 196, 0, 20, 16, 1, 0, 0, 0, 0, 0, 0, 0, 0, 0, 0, 0, 0, 0, 0, 0, 0};
        // A bit 0, the bits 100, a bit 0, and 111.
        int[] scan = {255, 218, 0, 8, 1, 1, 0, 0, 63, 0, 0x47, 255, 217};
        int[] table = new int[64];
        Arrays.fill(table, 16);
        Stream due = new Stream();
        for (int[] part : List.of(head, table, frame, first, others, scan)) {
            due.put(part);
        }
        CHECK.same("count", x.encode(50), due.size());
        for (int i = 0; i < due.size(); i++) {
            CHECK.same("octet " + i, x.octet(i), (byte) due.at(i));
        }
    }

    private static void qualities() {
        DctFilter x = new DctFilter();
        int[] table = new int[64];
        for (int i = 0; i < 64; i++) {
            table[i] = 1 + i * 4;
            x.table(0, i, table[i]);
        }
        x.point(7, 7, 90);
        for (int quality = 1; quality <= 100; quality++) {
            x.encode(quality);
            int[] due = ModelWriter.scaled(table, quality);
            for (int i = 0; i < 64; i++) {
                CHECK.same("number " + i + " of quality " + quality, x.octet(7 + i), (byte) due[i]);
            }
        }
        CHECK.same("table 0 stays", x.table(0, 63, -1), 253);
    }

    private static void extremes() {
        for (int kind = 0; kind < 4; kind++) {
            int[][] points = new int[32][32];
            DctFilter x = new DctFilter();
            for (int i = 0; i < 1024; i++) {
                int px = i % 32;
                int py = i / 32;
                boolean on = kind == 0 ? (px / 8 + py / 8) % 2 == 0 : kind == 1 ? (px + py) % 2 == 0 : kind == 2;
                points[py][px] = on ? 255 : 0;
                x.point(px, py, points[py][px]);
            }
            int[] ones = new int[64];
            Arrays.fill(ones, 1);
            for (int i = 0; i < 64; i++) {
                x.table(0, i, 1);
            }
            ModelWriter model = new ModelWriter(points, ones, 50, 0, List.of());
            CHECK.same("count", x.encode(50), model.bytes.size());
            x.take();
            CHECK.same("read", x.read(), 32);
            CHECK.same("whole", x.told(-1, 5), 0);
            for (int i = 0; i < 64; i++) {
                CHECK.same("coefficient", x.coefficient(5, i), model.blocks.get(5)[i]);
            }
        }
    }

    private static void scansInOneGo() {
        DctFilter x = new DctFilter();
        int[][] points = new int[20][20];
        for (int i = 0; i < 400; i++) {
            points[i / 20][i % 20] = i * i * 31 % 256;
            x.point(i % 20, i / 20, points[i / 20][i % 20]);
        }
        int[][] told = {{0, 0, 0, 1}, {1, 5, 0, 2}, {6, 63, 0, 2}, {1, 63, 2, 1}, {0, 0, 1, 0}, {1, 63, 1, 0}};
        for (int[] scan : told) {
            x.scan(scan[0], scan[1], scan[3]);
        }
        x.restart(2);
        int[] table = new int[64];
        Arrays.fill(table, 16);
        ModelWriter model = new ModelWriter(points, table, 90, 2, List.of(told));
        int count = x.encode(90);
        CHECK.same("count", count, model.bytes.size());
        for (int i = 0; i < count; i++) {
            CHECK.same("octet " + i, x.octet(i), model.bytes.get(i).byteValue());
        }
    }

    /** More than 2,000 bytes are written, and told, but not taken. */
    private static void longWriting() {
        DctFilter x = new DctFilter();
        int[][] points = new int[32][32];
        java.util.Random random = new java.util.Random(7);
        for (int i = 0; i < 1024; i++) {
            points[i / 32][i % 32] = random.nextInt(2) * 255;
            x.point(i % 32, i / 32, points[i / 32][i % 32]);
        }
        int[] ones = new int[64];
        Arrays.fill(ones, 1);
        for (int i = 0; i < 64; i++) {
            x.table(0, i, 1);
        }
        int[][] told = new int[10][4];
        for (int i = 1; i < 10; i++) {
            told[i] = new int[] {7 * i - 6, 7 * i, 0, 0};
        }
        for (int[] scan : told) {
            CHECK.same("told", x.scan(scan[0], scan[1], scan[3]) > 0 ? 1 : 0, 1);
        }
        x.restart(1);
        ModelWriter model = new ModelWriter(points, ones, 100, 1, List.of(told));
        int count = x.encode(100);
        CHECK.same("count", count, model.bytes.size());
        CHECK.same("long", count > 2000 ? 1 : 0, 1);
        for (int i = 0; i < count; i++) {
            CHECK.same("octet " + i, x.octet(i), model.bytes.get(i).byteValue());
        }
        CHECK.same("take", x.take(), 2000);
        CHECK.refused("it is full", UnsupportedOperationException.class, () -> {
            x.add((byte) 0);
            return 0;
        });
        CHECK.same("its end is not there", x.read() < 0 ? 1 : 0, 1);
        CHECK.same("all are told", x.told(-1, 6), count);
    }

    /** 4017 * 486 + 3406 * 24 + 2276 * 13 + 799 * 42 is 2^21: with 2896 and a number 181 a half, exactly. */
    private static void halves() {
        int[] sums = {486, 24, 13, 42, 0, 0, 0, 0};
        for (int sign : new int[] {1, -1}) {
            DctFilter x = new DctFilter();
            x.table(0, 1, 181);
            for (int column = 0; column < 8; column++) {
                for (int row = 0; row < 8; row++) {
                    int part = sums[column] / 8 + (row < sums[column] % 8 ? 1 : 0);
                    x.point(column, row, 128 + sign * part);
                }
            }
            x.encode(50);
            x.take();
            CHECK.same("read", x.read(), 8);
            CHECK.same("a half goes away from 0", x.coefficient(0, 1), sign);
            x.table(0, 1, 182);
            x.encode(50);
            x.take();
            CHECK.same("read", x.read(), 8);
            CHECK.same("less than a half is 0", x.coefficient(0, 1), 0);
        }
    }
}
