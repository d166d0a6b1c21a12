import java.util.ArrayList;
import java.util.Arrays;
import java.util.List;
import java.util.Random;

/** Promises 3 to 7: random pictures, whole and with changed bytes, against a second reader. */
final class ReadingAgainstModelTest {
    private static final Random RANDOM = new Random(20261115);
    private static final Check CHECK = new Check();

    public static void main(String[] args) {
        for (int i = 0; i < 4000; i++) {
            compare("random " + i, changed(randomStream(), RANDOM.nextInt(3)));
        }
        for (int i = 0; i < 4000; i++) {
            compare("units " + i, changed(streamOfUnits(), RANDOM.nextInt(4)));
        }
        for (int i = 0; i < 3000; i++) {
            compare("written " + i, changed(writtenStream(), RANDOM.nextInt(4)));
        }
        CHECK.end();
    }

    private static int below(int n) {
        return RANDOM.nextInt(n);
    }

    private static int oneOf(int... values) {
        return values[below(values.length)];
    }

    private static Stream changed(Stream stream, int changes) {
        for (int i = 0; i < changes; i++) {
            int place = below(3) == 0 ? below(stream.size()) : stream.size() - 1 - below(stream.size()) / 2;
            int value = stream.at(place);
            stream.change(place, oneOf(value ^ 1 << below(8), below(256), 255, 208 + below(8), 0));
        }
        return stream;
    }

    private static void compare(String name, Stream stream) {
        DctFilter filter = new DctFilter();
        int[][] tables = new int[4][64];
        List<Integer> bytes = new ArrayList<>();
        for (int i = 0; i < 4; i++) {
            Arrays.fill(tables[i], 16);
        }
        for (int i = 0; i < 4; i++) {
            int kind = below(4);
            int at = below(64);
            tables[kind][at] = 1 + below(255);
            filter.table(kind, at, tables[kind][at]);
        }
        for (int i = 0; i < Math.min(2000, stream.size()); i++) {
            bytes.add(stream.at(i));
            filter.add((byte) stream.at(i));
        }
        ModelReader model = new ModelReader(bytes, tables);
        CHECK.same(name + " read", filter.read(), model.answer);
        if (model.answer < 0) {
            for (int what = 0; what < 6; what++) {
                CHECK.same(name + " told " + what, filter.told(-1, what), 0);
            }
            return;
        }
        CHECK.same(name + " width", filter.told(-1, 0), model.width);
        CHECK.same(name + " height", filter.told(-1, 1), model.height);
        CHECK.same(name + " bands", filter.told(-1, 2), model.bands.size());
        CHECK.same(name + " blocks", filter.told(-1, 3), model.coefficients.length);
        CHECK.same(name + " scans", filter.told(-1, 4), model.scans);
        filter.table(below(4), below(64), 1 + below(255));
        compareBlocks(name, filter, model);
        for (int i = 0; i < 20 && model.width > 0; i++) {
            int x = below(model.width);
            int y = below(model.height);
            int band = below(model.bands.size());
            CHECK.same(name + " sample", filter.sample(x, y, band), model.sample(band, x, y));
        }
    }

    private static void compareBlocks(String name, DctFilter filter, ModelReader model) {
        int damaged = 0;
        for (int number = 0; number < model.bands.size(); number++) {
            ModelReader.Band band = model.bands.get(number);
            for (int i = 0; i < band.columns * band.rows; i++) {
                int block = band.firstBlock + i;
                CHECK.same(name + " band of " + block, filter.told(block, 0), number);
                CHECK.same(name + " column of " + block, filter.told(block, 1), i % band.columns);
                CHECK.same(name + " row of " + block, filter.told(block, 2), i / band.columns);
                CHECK.same(name + " damage of " + block, filter.told(block, 3), model.damaged[block] ? 1 : 0);
                damaged += model.damaged[block] ? 1 : 0;
                for (int k = 0; k < 64; k++) {
                    CHECK.same(name + " coefficient " + block + " " + k, filter.coefficient(block, k),
                            model.coefficients[block][k]);
                }
                int at = below(64);
                CHECK.same(name + " exact " + block + " " + at, filter.exact(block, at),
                        ModelReader.exact(model.coefficients[block], model.tables[band.table], at % 8, at / 8));
            }
        }
        CHECK.same(name + " damaged", filter.told(-1, 5), damaged);
    }

    /** Frames and scans of all kinds, short codes, and bits by chance. */
    private static Stream randomStream() {
        Stream stream = Stream.begin();
        boolean three = below(2) == 0;
        int marker = oneOf(192, 194);
        if (below(3) == 0) {
            stream.put(255, 219, 0, 67, below(4));
            for (int i = 0; i < 64; i++) {
                stream.put(1 + below(255));
            }
        }
        if (three) {
            stream.frameOfThree(marker, 1 + below(64), 1 + below(64), hAndV(), hAndV(), hAndV());
        } else {
            stream.put(255, marker, 0, 11, 8, 0, 1 + below(64), 0, 1 + below(64), 1, 1, hAndV(), below(4));
        }
        int scans = 1 + below(marker == 194 ? 6 : 2);
        for (int i = 0; i < scans && stream.size() < 1700; i++) {
            stream.interval(below(3) == 0 ? 0 : 1 + below(5));
            randomCodes(stream);
            randomScan(stream, marker, three);
            int count = below(150);
            for (int j = 0; j < count; j++) {
                stream.bits(oneOf(below(256), below(256), 0, 1), 8);
                if (below(20) == 0) {
                    stream.restart(below(5) == 0 ? below(8) : j / 20 % 8, oneOf(0, 0, 0, 1));
                }
            }
            stream.fill();
        }
        return stream.end();
    }

    private static int hAndV() {
        return oneOf(17, 17, 18, 33, 34);
    }

    private static void randomScan(Stream stream, int marker, boolean three) {
        int from = marker == 192 || below(3) == 0 ? 0 : oneOf(1, 1, 1 + below(63));
        int to = marker == 192 ? 63 : from == 0 ? 0 : oneOf(63, from + below(64 - from));
        int low = marker == 192 ? 0 : below(4) == 0 ? below(14) : below(3);
        int high = marker == 192 || below(2) == 0 ? 0 : low + 1;
        if (three && from == 0 && below(2) == 0) {
            stream.scanOfThree(from, to, high, low);
        } else {
            stream.scan(three ? 1 + below(3) : 1, from, to, high, low);
        }
    }

    private static void randomCodes(Stream stream) {
        int[] first = {0, 1, 2, 3, 4, 5, oneOf(11, 12)};
        int[] others = {0, 1, 2, 3, 17, 18, 33, 49, 240, 16, 32, 48, 65, 81, 97, oneOf(10, 11, 224, 80)};
        int[] refining = {0, 1, 17, 33, 49, 240, 16, oneOf(2, 224, 32)};
        int[] chosen = below(2) == 0 ? others : refining;
        stream.put(255, 196, 0, 2 + 17 + first.length + 17 + chosen.length);
        codes(stream, 0, first, 3);
        codes(stream, 16, chosen, chosen == others ? 4 : 3);
    }

    private static void codes(Stream stream, int kind, int[] symbols, int length) {
        stream.put(kind);
        for (int i = 1; i <= 16; i++) {
            stream.put(i == length ? symbols.length : 0);
        }
        stream.put(symbols);
    }

    /** Good data with good markers, in the first codes. */
    private static Stream streamOfUnits() {
        Stream stream = Stream.begin();
        boolean three = below(2) == 0;
        boolean whole = below(2) == 0;
        int interval = oneOf(0, 1, 2, 3);
        stream.interval(interval);
        int[] hv = {hAndV(), hAndV(), hAndV()};
        int width = 1 + below(40);
        int height = 1 + below(30);
        if (three) {
            stream.frameOfThree(whole ? 192 : 194, width, height, hv[0], hv[1], hv[2]);
            stream.scanOfThree(0, whole ? 63 : 0, 0, 0);
        } else {
            hv = new int[] {17};
            stream.frame(whole ? 192 : 194, width, height).scan(1, 0, whole ? 63 : 0, 0, 0);
        }
        int h = 1;
        int v = 1;
        int blocks = 0;
        for (int one : hv) {
            h = Math.max(h, one >> 4);
            v = Math.max(v, one & 15);
            blocks += (one >> 4) * (one & 15);
        }
        int units = (width + 8 * h - 1) / (8 * h) * ((height + 8 * v - 1) / (8 * v));
        for (int i = 0; i < units; i++) {
            if (interval > 0 && i > 0 && i % interval == 0) {
                stream.restart((i / interval - 1) % 8, oneOf(0, 0, 0, 1, 2));
            }
            for (int j = 0; j < blocks; j++) {
                stream.value(0, below(2001) - 1000);
                if (whole) {
                    randomOthers(stream);
                }
            }
        }
        return stream.end();
    }

    private static void randomOthers(Stream stream) {
        int k = 1;
        while (k < 64 && below(3) > 0) {
            int r = Math.min(63 - k, below(15));
            stream.value(r, (1 + below(1023)) * oneOf(1, -1));
            k += r + 1;
        }
        if (k < 64) {
            stream.symbol(0);
        }
    }

    private static Stream writtenStream() {
        DctFilter filter = new DctFilter();
        int width = 1 + below(32);
        int height = 1 + below(32);
        int noise = 1 + below(100);
        for (int i = 0; i < width * height && i < 300; i++) {
            filter.point(i % width, i / width, 100 + below(noise) + i % 17);
        }
        filter.restart(oneOf(0, 1, 2, 3, 7));
        for (int i = 0; i < 12; i++) {
            int from = below(4) == 0 ? 0 : oneOf(1, 1, 6);
            filter.scan(from, from == 0 ? 0 : oneOf(5, 63, 63), oneOf(0, 1, 2, Math.max(0, 3 - i / 3)));
        }
        int count = filter.encode(30 + below(71));
        Stream stream = new Stream();
        for (int i = 0; i < Math.min(2000, count); i++) {
            stream.put(filter.octet(i));
        }
        return stream;
    }
}
