import java.util.Random;

/** What is said of 2,000 bytes and of 512 calls; each object here is used for 512 calls at most. */
final class SentencesOfFullAndEmptyTest {
    private static final Check CHECK = new Check();
    private static final int[] SEED_AND_COUNT_BELOW = {13, 1999};
    private static final int[] SEED_AND_COUNT_FULL = {45, 2000};
    private static final int[] SEED_AND_COUNT_ABOVE = {74, 2001};

    public static void main(String[] args) {
        addWhenThereAre2000();
        addWhenThereAre2000ByTake();
        takeOfTheFirst2000();
        takeOfNothing();
        aNewObjectIsEmpty();
        for (int kind = 0; kind < 8; kind++) {
            all512Calls(kind);
        }
        roomOf512Calls();
        CHECK.end();
    }

    /** A writing of just so many bytes, by 314 calls. */
    private static DctFilter written(int[] seedAndCount) {
        DctFilter x = new DctFilter();
        Random random = new Random(seedAndCount[0]);
        for (int i = 0; i < 300; i++) {
            int place = random.nextInt(1024);
            x.point(place % 32, place / 32, 255);
        }
        x.point(31, 31, 255);
        for (int i = 0; i < 10; i++) {
            x.scan(i, i == 9 ? 63 : i, 0);
        }
        x.restart(1);
        CHECK.same("so many are written", x.encode(100), seedAndCount[1]);
        return x;
    }

    private static void full(String what, DctFilter x) {
        CHECK.refused(what, UnsupportedOperationException.class, () -> {
            x.add((byte) 255);
            return 0;
        });
    }

    /** "UnsupportedOperationException when there are 2,000." */
    private static void addWhenThereAre2000() {
        DctFilter x = written(SEED_AND_COUNT_BELOW);
        CHECK.same("take", x.take(), 1999);
        x.add((byte) 7);
        full("the 2,001st", x);
        full("the 2,001st again", x);
        CHECK.same("the picture is there, and one byte behind it", x.read(), 32);
        x.add((byte) 255);
        CHECK.same("there is room again", x.read(), -1);
    }

    private static void addWhenThereAre2000ByTake() {
        DctFilter x = written(SEED_AND_COUNT_FULL);
        x.take();
        full("behind take of 2,000", x);
        CHECK.same("all are there", x.read(), 32);
        CHECK.same("whole", x.told(-1, 5), 0);
        CHECK.same("scans", x.told(-1, 4), 10);

        DctFilter longer = written(SEED_AND_COUNT_ABOVE);
        longer.take();
        full("behind take of the first 2,000", longer);
        CHECK.same("the last byte, 217, is not there", longer.read(), -1 - 2000);
    }

    /** "The bytes collected are those that were written last (the first 2,000): how many." */
    private static void takeOfTheFirst2000() {
        CHECK.same("1,999", written(SEED_AND_COUNT_BELOW).take(), 1999);
        CHECK.same("2,000", written(SEED_AND_COUNT_FULL).take(), 2000);
        DctFilter x = written(SEED_AND_COUNT_ABOVE);
        CHECK.same("2,001", x.take(), 2000);
        CHECK.same("all 2,001 are told", x.told(-1, 6), 2001);
        CHECK.same("the last of them too", x.octet(2000), (byte) 217);
        CHECK.refused("and no more", ArrayIndexOutOfBoundsException.class, () -> x.octet(2001));
        CHECK.same("they can be taken again", x.take(), 2000);
        CHECK.same("and are read", x.read(), -2001);
        x.encode(1);
        CHECK.same("those that were written last", x.take(), x.told(-1, 6));
        CHECK.same("are read", x.read(), 32);
        CHECK.same("in one scan", x.told(-1, 4), 1);
    }

    private static void takeOfNothing() {
        DctFilter x = Stream.begin().put(255, 217).given();
        CHECK.same("take", x.take(), 0);
        CHECK.same("what was collected is no more", x.read(), -1);
        x.add((byte) 255);
        x.add((byte) 216);
        CHECK.same("bytes come behind none", x.read(), -3);
    }

    /** "No bytes, no picture, an empty canvas, no scans; the interval for writing is 0." */
    private static void aNewObjectIsEmpty() {
        CHECK.same("no bytes", new DctFilter().read(), -1);
        CHECK.same("no picture", new DctFilter().told(-1, 1), 0);
        DctFilter x = new DctFilter();
        CHECK.refused("an empty canvas", IllegalStateException.class, () -> x.encode(50));
        CHECK.same("no scans: none from 0", x.scan(1, 1, 0), 0);
        CHECK.same("no scans: the first is one", x.scan(0, 0, 0), 1);
        CHECK.same("the interval", x.restart(0), 0);
        DctFilter y = new DctFilter();
        y.point(0, 0, 128);
        y.encode(50);
        CHECK.same("a frame of one go", y.octet(72), (byte) 192);
        CHECK.same("behind which no interval is told", y.octet(85), (byte) 196);
    }

    /** "An object is used for at most 512 calls": the last one is as good as the first. */
    private static void all512Calls(int kind) {
        DctFilter x = new DctFilter();
        Stream stream = Stream.begin().frame(192, 8, 8).scan(1, 0, 63, 0, 0).flat(9).end();
        int size = stream.size();
        for (int call = 1; call <= 512; call++) {
            switch (kind) {
                case 0:
                    if (call % (size + 1) == 0) {
                        CHECK.same("read at " + call, x.read(), 8);
                    } else {
                        x.add((byte) stream.at(call % (size + 1) - 1));
                    }
                    break;
                case 1: CHECK.same("read at " + call, x.read(), -1); break;
                case 2: CHECK.same("point at " + call, x.point(31, 31, call % 256), call == 1 ? 0 : (call - 1) % 256); break;
                case 3: CHECK.same("table at " + call, x.table(3, 63, 1 + call % 255), call == 1 ? 16 : 1 + (call - 1) % 255); break;
                case 4: CHECK.same("restart at " + call, x.restart(call % 101), call == 1 ? 0 : (call - 1) % 101); break;
                case 5: CHECK.same("scan at " + call, x.scan(call <= 10 ? call - 1 : 0, call <= 10 ? call - 1 : 0, 0), call <= 10 ? call : 0); break;
                case 6: CHECK.same("take at " + call, x.take(), 0); break;
                default: CHECK.refused("encode at " + call, IllegalStateException.class, () -> x.encode(50)); break;
            }
        }
    }

    /** Rows are made once: 512 calls that write, take and read the greatest canvas make little more than the first few. */
    private static void roomOf512Calls() {
        DctFilter x = new DctFilter();
        for (int i = 0; i < 32; i++) {
            x.point(i, 31 - i, 8 * i);
        }
        work(x);
        com.sun.management.ThreadMXBean threads =
                (com.sun.management.ThreadMXBean) java.lang.management.ManagementFactory.getThreadMXBean();
        long before = threads.getCurrentThreadAllocatedBytes();
        for (int i = 0; i < 110; i++) {
            work(x);
        }
        long made = threads.getCurrentThreadAllocatedBytes() - before;
        CHECK.same("bytes made by 440 calls more: " + made, made > 100_000 ? 1 : 0, 0);
    }

    private static void work(DctFilter x) {
        x.encode(90);
        x.take();
        x.read();
        x.sample(31, 31, 3);
    }
}
