import java.util.ArrayList;
import java.util.HashMap;
import java.util.List;
import java.util.Map;

/** A second reader, written for plainness alone, to compare answers with. */
final class ModelReader {
    private static final class Fault extends RuntimeException {
        private static final long serialVersionUID = 1L;
        final int place;

        Fault(int place) {
            this.place = place;
        }
    }

    private static final class Damage extends RuntimeException {
        private static final long serialVersionUID = 1L;
    }

    /** Data up to the next marker. */
    private static final class Segment {
        String bits = "";
        int at;
        int end;
        int marker = -1;
    }

    static final class Band {
        int name, h, v, table, columns, rows, firstBlock, before, firstCodes, otherCodes;
    }

    final List<Band> bands = new ArrayList<>();
    final int[][] tables = new int[4][64];
    int[][] coefficients = new int[0][];
    boolean[] damaged = new boolean[0];
    int width, height, scans, answer;

    private final List<Integer> bytes;
    private final Map<Integer, Map<String, Integer>> codes = new HashMap<>();
    private int interval, frame, greatestH, greatestV, from, to, high, low, ending;
    private Segment data;

    ModelReader(List<Integer> bytes, int[][] firstTables) {
        this.bytes = bytes;
        for (int i = 0; i < 4; i++) {
            tables[i] = firstTables[i].clone();
        }
        int[] counts = new int[16];
        counts[7] = 255;
        List<Integer> symbols = new ArrayList<>();
        for (int i = 0; i < 255; i++) {
            symbols.add(i);
        }
        for (int i = 0; i < 8; i++) {
            codes.put(16 * (i / 4) + i % 4, codesOf(counts, symbols));
        }
        try {
            readAll();
            answer = height;
        } catch (Fault e) {
            answer = -1 - e.place;
        }
    }

    private static Map<String, Integer> codesOf(int[] counts, List<Integer> symbols) {
        Map<String, Integer> made = new HashMap<>();
        int code = 0;
        int at = 0;
        for (int length = 1; length <= 16; length++) {
            code *= 2;
            for (int i = 0; i < counts[length - 1]; i++) {
                String text = Integer.toBinaryString(code | 1 << length).substring(1);
                if (code >= 1 << length) {
                    return null;
                }
                made.put(text, symbols.get(at++));
                code++;
            }
        }
        return made;
    }

    private int at(int place) {
        return place < bytes.size() ? bytes.get(place) : -1;
    }

    private int two(int place) {
        return 256 * at(place) + at(place + 1);
    }

    private static void must(boolean holds, int place) {
        if (!holds) {
            throw new Fault(place);
        }
    }

    private void readAll() {
        must(at(0) == 255 && at(1) == 216, 0);
        int p = 2;
        while (true) {
            must(at(p) == 255, p);
            while (at(p) == 255) {
                p++;
            }
            int m = at(p);
            must(m != -1, p);
            if (m == 217) {
                return;
            }
            p++;
            if (m == 1 || m >= 208 && m <= 215) {
                continue;
            }
            must(m != 0 && m != 216, p - 1);
            boolean refused = m >= 193 && m <= 207 && m != 194 && m != 196 && m != 200 && m != 204;
            must(!refused, p - 1);
            must((m != 192 && m != 194) || frame == 0, p - 1);
            must(m != 218 || frame != 0, p - 1);
            must(p + 2 <= bytes.size(), p);
            int length = two(p);
            must(length >= 2 && p + length <= bytes.size(), p);
            int behind = p + length;
            if (m == 219) {
                tablesAt(p + 2, behind);
            } else if (m == 196) {
                codesAt(p + 2, behind);
            } else if (m == 221) {
                must(length == 4, p);
                interval = two(p + 2);
            } else if (m == 192 || m == 194) {
                frameAt(p, length, m);
            } else if (m == 218) {
                scanAt(p, length);
                behind = behindScan(data.end);
            }
            p = behind;
        }
    }

    private int behindScan(int p) {
        for (int i = p; i + 1 < bytes.size(); i++) {
            if (at(i) == 255 && at(i + 1) != 0 && (at(i + 1) < 208 || at(i + 1) > 215)) {
                return i;
            }
        }
        return bytes.size();
    }

    private void tablesAt(int p, int end) {
        while (p < end) {
            must(at(p) <= 3 && p + 65 <= end, p);
            for (int i = 0; i < 64; i++) {
                must(at(p + 1 + i) > 0, p);
                tables[at(p)][i] = at(p + 1 + i);
            }
            p += 65;
        }
    }

    private void codesAt(int p, int end) {
        while (p < end) {
            must(at(p) / 16 <= 1 && at(p) % 16 <= 3 && p + 17 <= end, p);
            int[] counts = new int[16];
            int sum = 0;
            for (int i = 0; i < 16; i++) {
                counts[i] = at(p + 1 + i);
                sum += counts[i];
            }
            must(sum <= 256 && p + 17 + sum <= end, p);
            Map<String, Integer> made = codesOf(counts, bytes.subList(p + 17, p + 17 + sum));
            must(made != null, p);
            codes.put(at(p), made);
            p += 17 + sum;
        }
    }

    private void frameAt(int p, int length, int m) {
        must(length >= 8, p);
        int count = at(p + 7);
        boolean possible = count == 1 || count == 3;
        must(!possible || length == 8 + 3 * count, p);
        must(at(p + 2) == 8, p + 2);
        int rows = two(p + 3);
        for (int i = p + 5; rows == 0 && i + 5 < bytes.size(); i++) {
            if (at(i) == 255 && at(i + 1) == 220 && at(i + 2) == 0 && at(i + 3) == 4) {
                rows = two(i + 4);
                break;
            }
        }
        must(rows >= 1 && rows <= 64, p + 3);
        must(two(p + 5) >= 1 && two(p + 5) <= 64, p + 5);
        must(possible, p + 7);
        for (int i = 0; i < count; i++) {
            int q = p + 8 + 3 * i;
            Band band = new Band();
            band.name = at(q);
            for (Band other : bands) {
                must(other.name != band.name, q);
            }
            band.h = at(q + 1) / 16;
            band.v = at(q + 1) % 16;
            must((band.h == 1 || band.h == 2) && (band.v == 1 || band.v == 2), q + 1);
            band.table = at(q + 2);
            must(band.table < 4, q + 2);
            bands.add(band);
        }
        frame = m;
        width = two(p + 5);
        height = rows;
        layOut();
    }

    private void layOut() {
        for (Band band : bands) {
            greatestH = Math.max(greatestH, band.h);
            greatestV = Math.max(greatestV, band.v);
        }
        int sum = 0;
        for (Band band : bands) {
            band.columns = up(width, 8 * greatestH) * band.h;
            band.rows = up(height, 8 * greatestV) * band.v;
            band.firstBlock = sum;
            sum += band.columns * band.rows;
        }
        coefficients = new int[sum][64];
        damaged = new boolean[sum];
    }

    private static int up(int a, int b) {
        return (a + b - 1) / b;
    }

    private void scanAt(int p, int length) {
        must(length >= 6, p);
        int count = at(p + 2);
        boolean possible = count == 1 || count == bands.size();
        must(!possible || length == 6 + 2 * count, p);
        must(possible, p + 2);
        List<Band> chosen = new ArrayList<>();
        for (int i = 0; i < count; i++) {
            int q = p + 3 + 2 * i;
            Band found = null;
            for (Band band : count == 1 ? bands : bands.subList(i, i + 1)) {
                found = band.name == at(q) ? band : found;
            }
            must(found != null, q);
            must(at(q + 1) / 16 < 4 && at(q + 1) % 16 < 4, q + 1);
            found.firstCodes = at(q + 1) / 16;
            found.otherCodes = 16 + at(q + 1) % 16;
            chosen.add(found);
        }
        int q = p + 3 + 2 * count;
        from = at(q);
        to = at(q + 1);
        high = at(q + 2) / 16;
        low = at(q + 2) % 16;
        if (frame == 192) {
            must(from == 0 && to == 63 && high == 0 && low == 0, q);
        } else {
            must(from == 0 && to == 0 || from >= 1 && from <= to && to <= 63 && count == 1, q);
            must(low <= 13 && (high == 0 || high == low + 1), q);
        }
        scans++;
        readUnits(unitsOf(chosen), q + 3);
    }

    /** Each unit is a list of band and block. */
    private List<List<int[]>> unitsOf(List<Band> chosen) {
        List<List<int[]>> units = new ArrayList<>();
        if (chosen.size() == 1) {
            Band band = chosen.get(0);
            for (int y = 0; y < up(up(height * band.v, greatestV), 8); y++) {
                for (int x = 0; x < up(up(width * band.h, greatestH), 8); x++) {
                    units.add(List.of(new int[] {bands.indexOf(band), band.firstBlock + y * band.columns + x}));
                }
            }
            return units;
        }
        for (int y = 0; y < up(height, 8 * greatestV); y++) {
            for (int x = 0; x < up(width, 8 * greatestH); x++) {
                List<int[]> unit = new ArrayList<>();
                for (Band band : chosen) {
                    for (int j = y * band.v; j < (y + 1) * band.v; j++) {
                        for (int i = x * band.h; i < (x + 1) * band.h; i++) {
                            unit.add(new int[] {bands.indexOf(band), band.firstBlock + j * band.columns + i});
                        }
                    }
                }
                units.add(unit);
            }
        }
        return units;
    }

    private void begin(int p) {
        data = new Segment();
        ending = 0;
        for (Band band : bands) {
            band.before = 0;
        }
        StringBuilder bits = new StringBuilder();
        int i = p;
        while (i < bytes.size()) {
            if (at(i) == 255 && at(i + 1) != 0) {
                data.marker = at(i + 1);
                break;
            }
            bits.append(Integer.toBinaryString(256 + at(i)).substring(1));
            i += at(i) == 255 ? 2 : 1;
        }
        data.end = i;
        data.bits = bits.toString();
    }

    private void readUnits(List<List<int[]>> units, int p) {
        begin(p);
        int found = 0;
        int u = 0;
        while (u < units.size()) {
            try {
                if (interval > 0 && u % interval == 0 && u != found) {
                    boolean atEnd = data.bits.length() - data.at < 8;
                    int m = data.end;
                    while (at(m) == 255) {
                        m++;
                    }
                    if (!atEnd || at(m) != 208 + (u / interval - 1) % 8) {
                        throw new Damage();
                    }
                    begin(m + 1);
                }
                for (int[] block : units.get(u)) {
                    readBlock(bands.get(block[0]), coefficients[block[1]]);
                }
                u++;
            } catch (Damage e) {
                int next = units.size();
                for (int j = 1; interval > 0 && j * interval < units.size() && next == units.size(); j++) {
                    if (j * interval > u && 208 + (j - 1) % 8 == data.marker) {
                        next = j * interval;
                    }
                }
                for (; u < next; u++) {
                    for (int[] block : units.get(u)) {
                        damaged[block[1]] = true;
                    }
                }
                if (next < units.size()) {
                    begin(data.end + 2);
                    found = next;
                }
            }
        }
    }

    private int bits(int count) {
        int sum = 0;
        for (int i = 0; i < count; i++) {
            if (data.at >= data.bits.length()) {
                throw new Damage();
            }
            sum = 2 * sum + data.bits.charAt(data.at++) - '0';
        }
        return sum;
    }

    private int signed(int s) {
        int told = bits(s);
        return s > 0 && told < 1 << (s - 1) ? told - ((1 << s) - 1) : told;
    }

    private int symbol(int kind) {
        StringBuilder code = new StringBuilder();
        while (code.length() < 16) {
            code.append(bits(1));
            Integer symbol = codes.get(kind).get(code.toString());
            if (symbol != null) {
                return symbol;
            }
        }
        throw new Damage();
    }

    private static void fits(boolean holds) {
        if (!holds) {
            throw new Damage();
        }
    }

    private void readBlock(Band band, int[] block) {
        if (from == 0 && high > 0) {
            block[0] |= bits(1) << low;
            return;
        }
        if (from == 0) {
            int s = symbol(band.firstCodes);
            fits(s <= 11);
            band.before += signed(s);
            block[0] = band.before << low;
        }
        if (to > 0 && high == 0) {
            readOthers(band, block);
        } else if (to > 0) {
            refineOthers(band, block);
        }
    }

    private void readOthers(Band band, int[] block) {
        if (ending > 0) {
            ending--;
            return;
        }
        int k = Math.max(from, 1);
        while (k <= to) {
            int symbol = symbol(band.otherCodes);
            int r = symbol / 16;
            int s = symbol % 16;
            if (s == 0 && r == 15) {
                k += 16;
            } else if (s == 0) {
                ending = frame == 192 ? 0 : (1 << r) + bits(r) - 1;
                return;
            } else {
                fits(s <= 10 && k + r <= to);
                block[k + r] = signed(s) << low;
                k += r + 1;
            }
        }
    }

    private void correct(int[] block, int k) {
        if (bits(1) == 1 && (block[k] >> low & 1) == 0) {
            block[k] += Integer.signum(block[k]) << low;
        }
    }

    private void refineOthers(Band band, int[] block) {
        int k = from;
        while (k <= to && ending == 0) {
            int symbol = symbol(band.otherCodes);
            int r = symbol / 16;
            int s = symbol % 16;
            fits(s < 2);
            if (s == 0 && r < 15) {
                ending = (1 << r) + bits(r);
                break;
            }
            int value = s == 0 ? 0 : (bits(1) * 2 - 1) << low;
            while (k <= to && (block[k] != 0 || r > 0)) {
                if (block[k] != 0) {
                    correct(block, k);
                } else {
                    r--;
                }
                k++;
            }
            fits(s == 0 || k <= to);
            if (s > 0) {
                block[k] = value;
            }
            k++;
        }
        if (ending > 0) {
            for (; k <= to; k++) {
                if (block[k] != 0) {
                    correct(block, k);
                }
            }
            ending--;
        }
    }

    /** The sum as the document has it, u and v in two loops. */
    static long exact(int[] coefficients, int[] table, int x, int y) {
        long sum = 0;
        int i = 0;
        for (int diagonal = 0; diagonal < 15; diagonal++) {
            for (int step = 0; step <= diagonal; step++) {
                int u = diagonal % 2 == 0 ? step : diagonal - step;
                int v = diagonal - u;
                if (u < 8 && v < 8) {
                    sum += c(u, x) * c(v, y) * coefficients[i] * table[i];
                    i++;
                }
            }
        }
        return sum;
    }

    static long c(int u, int x) {
        return u == 0 ? 2896 : wave((2 * x + 1) * u % 32);
    }

    private static long wave(int k) {
        long[] first = {4096, 4017, 3784, 3406, 2896, 2276, 1567, 799, 0};
        if (k > 16) {
            return wave(32 - k);
        }
        return k > 8 ? -first[16 - k] : first[k];
    }

    int sample(int band, int x, int y) {
        Band b = bands.get(band);
        int column = x * b.h / greatestH;
        int row = y * b.v / greatestV;
        int block = b.firstBlock + row / 8 * b.columns + column / 8;
        long exact = exact(coefficients[block], tables[b.table], column % 8, row % 8);
        return (int) Math.max(0, Math.min(255, Math.floorDiv(exact + (1 << 25), 1L << 26) + 128));
    }
}
