import java.math.BigDecimal;
import java.math.RoundingMode;
import java.util.ArrayList;
import java.util.Comparator;
import java.util.List;
import java.util.Map;
import java.util.TreeMap;
import java.util.TreeSet;

/** A second writer, written for plainness alone, to compare bytes with. */
final class ModelWriter {
    /** A code's symbol or plain bits, in the order in which they are written; or a marker. */
    private static final class Item {
        final int kind;
        final int symbol;
        final String plain;

        Item(int kind, int symbol, String plain) {
            this.kind = kind;
            this.symbol = symbol;
            this.plain = plain;
        }
    }

    private static final class Group {
        int count;
        final TreeSet<Integer> symbols = new TreeSet<>();
    }

    final List<Integer> bytes = new ArrayList<>();
    final List<int[]> blocks = new ArrayList<>();
    private List<Item> items;

    /** Points by row; scans are from, to, high, low. */
    ModelWriter(int[][] points, int[] table, int quality, int interval, List<int[]> scans) {
        int[] scaled = scaled(table, quality);
        int height = points.length;
        int width = points[0].length;
        for (int top = 0; top < height; top += 8) {
            for (int left = 0; left < width; left += 8) {
                blocks.add(block(points, left, top, scaled));
            }
        }
        put(255, 216, 255, 219, 0, 67, 0);
        put(scaled);
        put(255, scans.isEmpty() ? 192 : 194, 0, 11, 8, 0, height, 0, width, 1, 1, 17, 0);
        if (interval > 0) {
            put(255, 221, 0, 4, 0, interval);
        }
        if (scans.isEmpty()) {
            putScan(new int[] {0, 63, 0, 0}, interval);
        }
        for (int[] scan : scans) {
            putScan(scan, interval);
        }
        put(255, 217);
    }

    private void put(int... values) {
        for (int value : values) {
            bytes.add(value);
        }
    }

    static int[] scaled(int[] table, int quality) {
        int s = quality < 50 ? 5000 / quality : 200 - 2 * quality;
        int[] made = new int[64];
        for (int i = 0; i < 64; i++) {
            made[i] = Math.min(255, Math.max(1, (table[i] * s + 50) / 100));
        }
        return made;
    }

    private static int[] block(int[][] points, int left, int top, int[] table) {
        int[] block = new int[64];
        int i = 0;
        for (int diagonal = 0; diagonal < 15; diagonal++) {
            for (int step = 0; step <= diagonal; step++) {
                int u = diagonal % 2 == 0 ? step : diagonal - step;
                int v = diagonal - u;
                if (u > 7 || v > 7) {
                    continue;
                }
                long sum = 0;
                for (int y = 0; y < 8; y++) {
                    int[] row = points[Math.min(points.length - 1, top + y)];
                    for (int x = 0; x < 8; x++) {
                        sum += ModelReader.c(u, x) * ModelReader.c(v, y) * (row[Math.min(row.length - 1, left + x)] - 128);
                    }
                }
                BigDecimal divisor = BigDecimal.valueOf((1L << 26) * table[i]);
                block[i++] = BigDecimal.valueOf(sum).divide(divisor, 0, RoundingMode.HALF_UP).intValue();
            }
        }
        return block;
    }

    private void putScan(int[] scan, int interval) {
        items = new ArrayList<>();
        int before = 0;
        for (int i = 0; i < blocks.size(); i++) {
            if (interval > 0 && i > 0 && i % interval == 0) {
                items.add(new Item(-1, 208 + (i / interval - 1) % 8, ""));
                before = 0;
            }
            int[] block = blocks.get(i);
            int first = Math.floorDiv(block[0], 1 << scan[3]);
            if (scan[0] == 0 && scan[2] > 0) {
                plain(Math.floorMod(first, 2), 1);
            } else if (scan[0] == 0) {
                coded(0, 0, first - before);
                before = first;
            }
            if (scan[1] > 0 && scan[2] == 0) {
                others(block, Math.max(1, scan[0]), scan[1], scan[3]);
            } else if (scan[1] > 0) {
                refine(block, scan[0], scan[1], scan[3]);
            }
        }
        List<Map<Integer, String>> codes = new ArrayList<>();
        for (int kind = 0; kind < 2; kind++) {
            codes.add(suited(kind));
            if (!codes.get(kind).isEmpty()) {
                putCodes(kind, codes.get(kind));
            }
        }
        put(255, 218, 0, 8, 1, 1, 0, scan[0], scan[1], 16 * scan[2] + scan[3]);
        putData(codes);
    }

    private void plain(int value, int count) {
        if (count > 0) {
            String text = Integer.toBinaryString(value & ((1 << count) - 1) | 1 << count).substring(1);
            items.add(new Item(-1, -1, text));
        }
    }

    private void coded(int kind, int r, int value) {
        int s = 0;
        while (Math.abs(value) >= 1 << s) {
            s++;
        }
        items.add(new Item(kind, 16 * r + s, ""));
        plain(value < 0 ? value + (1 << s) - 1 : value, s);
    }

    private static int reduced(int value, int low) {
        return value / (1 << low);
    }

    private void others(int[] block, int from, int to, int low) {
        int zeros = 0;
        for (int k = from; k <= to; k++) {
            int value = reduced(block[k], low);
            if (value == 0) {
                zeros++;
                continue;
            }
            for (; zeros > 15; zeros -= 16) {
                items.add(new Item(1, 240, ""));
            }
            coded(1, zeros, value);
            zeros = 0;
        }
        if (zeros > 0) {
            items.add(new Item(1, 0, ""));
        }
    }

    /** Goes as a reader does: it looks what the next code must be, then passes what that code passes. */
    private void refine(int[] block, int from, int to, int low) {
        int k = from;
        while (k <= to) {
            int zeros = 0;
            int next = k;
            while (next <= to && Math.abs(reduced(block[next], low)) != 1) {
                zeros += reduced(block[next], low) == 0 ? 1 : 0;
                next++;
            }
            boolean sixteen = next <= to && zeros > 15;
            int stop = next;
            if (next > to) {
                items.add(new Item(1, 0, ""));
            } else if (sixteen) {
                items.add(new Item(1, 240, ""));
                stop = sixteenth(block, k, low);
            } else {
                items.add(new Item(1, 16 * zeros + 1, ""));
                plain(block[next] > 0 ? 1 : 0, 1);
            }
            for (; k < stop; k++) {
                int value = Math.abs(reduced(block[k], low));
                if (value > 1) {
                    plain(value % 2, 1);
                }
            }
            k++;
        }
    }

    private static int sixteenth(int[] block, int from, int low) {
        int zeros = 0;
        int k = from;
        while (true) {
            zeros += reduced(block[k], low) == 0 ? 1 : 0;
            if (zeros == 16) {
                return k;
            }
            k++;
        }
    }

    /** Symbols with their codes, in the order in which they are told. */
    private Map<Integer, String> suited(int kind) {
        Map<Integer, Integer> counts = new TreeMap<>();
        for (Item item : items) {
            if (item.kind == kind) {
                counts.merge(item.symbol, 1, Integer::sum);
            }
        }
        if (counts.isEmpty()) {
            return Map.of();
        }
        counts.put(256, 1);
        List<Group> groups = new ArrayList<>();
        Map<Integer, Integer> lengths = new TreeMap<>();
        for (Map.Entry<Integer, Integer> entry : counts.entrySet()) {
            Group group = new Group();
            group.count = entry.getValue();
            group.symbols.add(entry.getKey());
            groups.add(group);
        }
        while (groups.size() > 1) {
            groups.sort(Comparator.<Group>comparingInt(g -> g.count).thenComparingInt(g -> -g.symbols.last()));
            Group one = groups.remove(0);
            Group other = groups.remove(0);
            one.count += other.count;
            one.symbols.addAll(other.symbols);
            for (int symbol : one.symbols) {
                lengths.merge(symbol, 1, Integer::sum);
            }
            groups.add(one);
        }
        lengths.remove(256);
        List<Integer> order = new ArrayList<>(lengths.keySet());
        order.sort(Comparator.<Integer>comparingInt(lengths::get).thenComparingInt(symbol -> symbol));
        Map<Integer, String> codes = new java.util.LinkedHashMap<>();
        int code = 0;
        int length = 0;
        for (int symbol : order) {
            code <<= lengths.get(symbol) - length;
            length = lengths.get(symbol);
            codes.put(symbol, Integer.toBinaryString(code | 1 << length).substring(1));
            code++;
        }
        return codes;
    }

    private void putCodes(int kind, Map<Integer, String> codes) {
        put(255, 196, 0, 19 + codes.size(), 16 * kind);
        for (int length = 1; length <= 16; length++) {
            int wanted = length;
            put((int) codes.values().stream().filter(code -> code.length() == wanted).count());
        }
        for (int symbol : codes.keySet()) {
            put(symbol);
        }
    }

    private void putData(List<Map<Integer, String>> codes) {
        StringBuilder bits = new StringBuilder();
        for (Item item : items) {
            if (item.kind >= 0) {
                bits.append(codes.get(item.kind).get(item.symbol));
            } else if (item.symbol >= 208) {
                putBits(bits);
                put(255, item.symbol);
            }
            bits.append(item.plain);
        }
        putBits(bits);
    }

    private void putBits(StringBuilder bits) {
        while (bits.length() % 8 > 0) {
            bits.append('1');
        }
        for (int i = 0; i < bits.length(); i += 8) {
            int value = Integer.parseInt(bits.substring(i, i + 8), 2);
            put(value);
            if (value == 255) {
                put(0);
            }
        }
        bits.setLength(0);
    }
}
