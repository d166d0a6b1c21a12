import java.util.ArrayList;
import java.util.Arrays;
import java.util.List;
import java.util.Random;

/** Promises 9 to 14: random canvases against a second writer, byte by byte, and read again. */
final class WritingAgainstModelTest {
    private static final Random RANDOM = new Random(1115);
    private static final Check CHECK = new Check();

    public static void main(String[] args) {
        for (int i = 0; i < 1500; i++) {
            compare("canvas " + i);
        }
        CHECK.end();
    }

    private static int below(int n) {
        return RANDOM.nextInt(n);
    }

    private static int[][] randomPoints(int width, int height) {
        int[][] points = new int[height][width];
        int kind = below(4);
        int noise = 1 + below(256);
        for (int y = 0; y < height; y++) {
            for (int x = 0; x < width; x++) {
                int smooth = (int) (128 + 90 * Math.sin(x * 0.3 + y * 0.2));
                int[] values = {below(noise), below(2) * 255, Math.min(255, smooth + below(30)), below(9) == 0 ? 255 : 0};
                points[y][x] = values[kind];
            }
        }
        return points;
    }

    /** Tells scans by chance; the model gets those that are taken. */
    private static List<int[]> tellScans(DctFilter filter) {
        List<int[]> told = new ArrayList<>();
        int[] lowest = new int[64];
        Arrays.fill(lowest, -1);
        int tries = below(3) == 0 ? 0 : 1 + below(16);
        int[] ends = {0, 1, 2 + below(10), 63};
        boolean inOrder = below(2) == 0;
        int highest = below(4);
        for (int i = 0; i < tries; i++) {
            int from = below(3) == 0 ? 0 : below(2) == 0 ? 1 : 1 + below(63);
            int to = from == 0 ? 0 : from == 1 ? 63 : from + below(64 - from);
            int bit = below(3) == 0 ? below(4) : Math.max(0, 3 - i / 3);
            if (inOrder) {
                from = i % 4 == 0 ? 0 : ends[i % 4 - 1] + 1;
                to = ends[i % 4];
                bit = highest - i / 4;
            }
            int answer = filter.scan(from, to, bit);
            if (answer > 0) {
                CHECK.same("scan", answer, told.size() + 1);
                told.add(new int[] {from, to, Math.max(0, lowest[from]), bit});
                Arrays.fill(lowest, from, to + 1, bit);
            }
        }
        return told;
    }

    private static void compare(String name) {
        DctFilter filter = new DctFilter();
        int width = 1 + below(32);
        int height = 1 + below(32);
        int[][] points = randomPoints(width, height);
        for (int y = 0; y < height; y++) {
            for (int x = 0; x < width; x++) {
                filter.point(x, y, points[y][x]);
            }
        }
        int[] table = new int[64];
        Arrays.fill(table, 16);
        for (int i = 0; i < below(70); i++) {
            int at = below(64);
            table[at] = 1 + below(255);
            filter.table(0, at, table[at]);
        }
        filter.table(1, below(64), 200);
        int interval = below(3) == 0 ? 1 + below(5) : below(5) == 0 ? 100 : 0;
        filter.restart(interval);
        int quality = 1 + below(100);
        List<int[]> scans = tellScans(filter);
        ModelWriter model = new ModelWriter(points, table, quality, interval, scans);
        int count = filter.encode(quality);
        CHECK.same(name + " count", count, model.bytes.size());
        CHECK.same(name + " told", filter.told(-1, 6), count);
        for (int i = 0; i < Math.min(count, model.bytes.size()); i++) {
            CHECK.same(name + " octet " + i, filter.octet(i), model.bytes.get(i).byteValue());
        }
        readAgain(name, filter, model, scans, height);
        CHECK.same(name + " scan anew", filter.scan(0, 0, 3), 1);
    }

    private static void readAgain(String name, DctFilter filter, ModelWriter model, List<int[]> scans, int height) {
        int taken = filter.take();
        CHECK.same(name + " take", taken, Math.min(2000, model.bytes.size()));
        if (taken < model.bytes.size()) {
            return;
        }
        CHECK.same(name + " read", filter.read(), height);
        CHECK.same(name + " damaged", filter.told(-1, 5), 0);
        int[] low = new int[64];
        Arrays.fill(low, scans.isEmpty() ? 0 : -1);
        for (int[] scan : scans) {
            Arrays.fill(low, scan[0], scan[1] + 1, scan[3]);
        }
        for (int block = 0; block < model.blocks.size(); block++) {
            for (int i = 0; i < 64; i++) {
                int value = model.blocks.get(block)[i];
                int kept = low[i] < 0 ? 0 : i == 0 ? value >> low[i] << low[i] : value / (1 << low[i]) * (1 << low[i]);
                CHECK.same(name + " coefficient " + block + " " + i, filter.coefficient(block, i), kept);
            }
        }
    }
}
