/** "TO WRITE the canvas" and "CODES that suit": small canvases whose bytes were found by hand. */
final class SentencesOfWritingTest {
    private static final Check CHECK = new Check();
    /** Where the bytes behind the frame begin. */
    private static final int BEHIND_FRAME = 84;
    /** How many codes have 1, 2, ... bits. */
    private static final int[] ONE = {1};
    private static final int[] ONE_AND_ONE = {1, 1};

    public static void main(String[] args) {
        alikeGroups();
        oneSymbolAlone();
        filledUpWithBits1();
        filledUpTo255();
        noCodesForBitsOfFirstOnes();
        classesOfAScan();
        moreThan15Zeros();
        notMoreThan15Zeros();
        sixteenOnlyWhileOneBecomesNot0();
        bitsBehindTheCodeBeforeWhichTheyArePassed();
        intervalsWhenWritten();
        firstOnesDownwardOthersToward0();
        CHECK.end();
    }

    private static void bytes(String what, DctFilter x, int from, int... due) {
        for (int i = 0; i < due.length; i++) {
            CHECK.same(what + ", octet " + (from + i), x.octet(from + i) & 255, due[i]);
        }
    }

    private static void end(String what, DctFilter x, int at) {
        bytes(what, x, at, 255, 217);
        CHECK.same(what + ", count", x.told(-1, 6), at + 2);
    }

    /** A row of blocks; with numbers 16 a first coefficient k is of points 128 + 2 k. */
    private static DctFilter flats(int... first) {
        DctFilter x = new DctFilter();
        for (int i = 0; i < first.length; i++) {
            for (int j = 0; j < 8; j++) {
                x.point(8 * i + j, 0, 128 + 2 * first[i]);
            }
        }
        return x;
    }

    /** A 196 of codes of so many bits, each length's count and then the symbols; where it ends. */
    private static int codes(String what, DctFilter x, int at, int kind, int[] counts, int... symbols) {
        bytes(what, x, at, 255, 196, 0, 19 + symbols.length, 16 * kind);
        for (int i = 0; i < 16; i++) {
            bytes(what + " counts", x, at + 5 + i, i < counts.length ? counts[i] : 0);
        }
        bytes(what + " symbols", x, at + 21, symbols);
        return at + 21 + symbols.length;
    }

    private static int scan(String what, DctFilter x, int at, int from, int to, int last, int... data) {
        bytes(what, x, at, 255, 218, 0, 8, 1, 1, 0, from, to, last);
        bytes(what + " data", x, at + 10, data);
        return at + 10 + data.length;
    }

    /** "The two groups of the least counts (of alike ones those with the greater greatest symbol) become one" */
    private static void alikeGroups() {
        // Differences 0 1 2 0: s 0 twice, 1 and 2 once, and 256: 2 and 256 join, then 1 joins them (not 0, of the same count).
        DctFilter x = flats(0, 1, 3, 3);
        x.encode(50);
        int at = codes("class 0", x, BEHIND_FRAME, 0, new int[] {1, 1, 1}, 0, 1, 2);
        at = codes("class 1", x, at, 1, ONE, 0);
        // 0 0, 10 1 0, 110 10 0, 0 0, and 11.
        end("alike", x, scan("alike", x, at, 0, 63, 0, 0x2b, 0x43));
    }

    /** "one more, 256, 1 .. 256 left out": a symbol alone has a bit all the same. */
    private static void oneSymbolAlone() {
        DctFilter x = flats(0);
        x.encode(50);
        int at = codes("class 0", x, BEHIND_FRAME, 0, ONE, 0);
        at = codes("class 1", x, at, 1, ONE, 0);
        end("alone", x, scan("alone", x, at, 0, 63, 0, 0x3f));
    }

    /** "218 and data, filled up with bits 1" */
    private static void filledUpWithBits1() {
        for (int blocks = 1; blocks <= 4; blocks++) {
            DctFilter x = flats(new int[blocks]);
            x.encode(50);
            int at = codes("class 0", x, BEHIND_FRAME, 0, ONE, 0);
            at = codes("class 1", x, at, 1, ONE, 0);
            // Two bits 0 a block.
            end("filled up", x, scan("filled up", x, at, 0, 63, 0, 255 >> 2 * blocks));
        }
    }

    /** Bits 1 filled up to 255 are followed by 0, so that "another byte there" does not end them. */
    private static void filledUpTo255() {
        DctFilter x = flats(1);
        x.scan(0, 0, 1);
        x.scan(0, 0, 0);
        x.encode(50);
        int at = codes("class 0", x, BEHIND_FRAME, 0, ONE, 0);
        at = scan("bit 1", x, at, 0, 0, 1, 0x7f);
        end("bit 0", x, scan("bit 0", x, at, 0, 0, 0x10, 255, 0));
        x.take();
        CHECK.same("read", x.read(), 1);
        CHECK.same("whole", x.told(-1, 5), 0);
        CHECK.same("first", x.coefficient(0, 0), 1);
    }

    /** "(number 0; none for from 0 and high > 0)" */
    private static void noCodesForBitsOfFirstOnes() {
        DctFilter x = flats(5, 4, 7);
        x.scan(0, 0, 2);
        x.scan(0, 0, 1);
        x.scan(0, 0, 0);
        x.encode(50);
        // 101, 100, 111: differences 1 0 0 of 1 1 1 (10 1, 0, 0, and 111); then bits 0 0 1, and 1 0 1.
        int at = codes("class 0", x, BEHIND_FRAME, 0, ONE_AND_ONE, 0, 1);
        at = scan("bit 2", x, at, 0, 0, 2, 0xa7);
        at = scan("bit 1", x, at, 0, 0, 0x21, 0x3f);
        end("bit 0", x, scan("bit 0", x, at, 0, 0, 0x10, 0xbf));
    }

    /** "for each scan (without any: 0 to 63) a 196 for each of its codes, class 0 first" */
    private static void classesOfAScan() {
        DctFilter x = flats(0);
        x.scan(0, 0, 0);
        x.scan(1, 5, 0);
        x.scan(6, 63, 1);
        x.scan(6, 63, 0);
        x.encode(50);
        int at = scan("first", x, codes("class 0", x, BEHIND_FRAME, 0, ONE, 0), 0, 0, 0, 0x7f);
        at = scan("1 to 5", x, codes("class 1", x, at, 1, ONE, 0), 1, 5, 0, 0x7f);
        at = scan("6 to 63", x, codes("class 1", x, at, 1, ONE, 0), 6, 63, 1, 0x7f);
        end("bit 0", x, scan("6 to 63, bit 0", x, codes("class 1", x, at, 1, ONE, 0), 6, 63, 0x10, 0x7f));
        CHECK.same("by and by", x.octet(72), (byte) 194);
    }

    /** A block with these coefficients, each at its number, and all others 0. */
    private static DctFilter block(int[]... numberAndValue) {
        DctFilter x = new DctFilter();
        double[] parts = new double[64];
        for (int i = 0; i < 64; i++) {
            x.table(0, i, 255);
        }
        for (int[] one : numberAndValue) {
            x.table(0, one[0], 60);
            int[] waves = wavesOf(one[0]);
            for (int k = 0; k < 64; k++) {
                parts[k] += 60 * one[1] * ModelReader.c(waves[0], k % 8) * ModelReader.c(waves[1], k / 8) / 67108864.0;
            }
        }
        for (int k = 0; k < 64; k++) {
            x.point(k % 8, k / 8, 128 + (int) Math.round(parts[k]));
        }
        return x;
    }

    /** u and v of a coefficient, by diagonals. */
    private static int[] wavesOf(int number) {
        int i = 0;
        for (int diagonal = 0; diagonal < 15; diagonal++) {
            for (int step = 0; step <= diagonal; step++) {
                int u = diagonal % 2 == 0 ? step : diagonal - step;
                if (u < 8 && diagonal - u < 8 && i++ == number) {
                    return new int[] {u, diagonal - u};
                }
            }
        }
        return new int[2];
    }

    private static DctFilter written(DctFilter x, int... bits) {
        for (int i = 0; i < bits.length; i++) {
            CHECK.same("scan", x.scan(i == 0 ? 0 : 1, i == 0 ? 0 : 63, bits[i]), i + 1);
        }
        x.encode(50);
        return x;
    }

    /** "each run of more than 15 zeros before another coefficient is by 240" */
    private static void moreThan15Zeros() {
        DctFilter x = written(block(new int[] {63, 1}));
        int at = codes("class 0", x, BEHIND_FRAME, 0, ONE, 0);
        at = codes("63", x, at, 1, ONE_AND_ONE, 240, 0xe1);
        // 0, 0 0 0, 10 1, and a 1: no r = 0 behind coefficient 63.
        end("63", x, scan("63", x, at, 0, 63, 0, 0x0b));

        x = written(block(new int[] {17, 1}));
        at = codes("class 0", x, BEHIND_FRAME, 0, ONE, 0);
        at = codes("17", x, at, 1, new int[] {0, 3}, 0, 1, 240);
        // 0, 10, 01 1, 00.
        end("17", x, scan("17", x, at, 0, 63, 0, 0x4c));
    }

    private static void notMoreThan15Zeros() {
        DctFilter x = written(block(new int[] {16, 1}));
        int at = codes("class 0", x, BEHIND_FRAME, 0, ONE, 0);
        at = codes("16", x, at, 1, ONE_AND_ONE, 0, 0xf1);
        // 0, 10 1, 0, and 111: "blocks end one by one (r = 0)".
        end("16", x, scan("16", x, at, 0, 63, 0, 0x57));
    }

    /** "240 only while there is one behind that becomes not 0" */
    private static void sixteenOnlyWhileOneBecomesNot0() {
        for (int value : new int[] {2, 3}) {
            DctFilter x = written(block(new int[] {63, value}), 0, 1, 0);
            int at = scan("first", x, codes("class 0", x, BEHIND_FRAME, 0, ONE, 0), 0, 0, 0, 0x7f);
            at = scan("bit 1", x, codes("bit 1", x, at, 1, ONE_AND_ONE, 240, 0xe1), 1, 63, 1, 0x17);
            // r = 0, and the bit of coefficient 63.
            end("bit 0", x, scan("bit 0", x, codes("bit 0", x, at, 1, ONE, 0), 1, 63, 0x10, value == 3 ? 0x7f : 0x3f));
        }
        DctFilter x = written(block(new int[] {63, 1}), 0, 1, 0);
        int at = scan("first", x, codes("class 0", x, BEHIND_FRAME, 0, ONE, 0), 0, 0, 0, 0x7f);
        at = scan("bit 1", x, codes("bit 1", x, at, 1, ONE, 0), 1, 63, 1, 0x7f);
        end("bit 0", x, scan("bit 0", x, codes("bit 0", x, at, 1, ONE_AND_ONE, 240, 0xe1), 1, 63, 0x10, 0x17));
    }

    /** The last scan's codes and data, of coefficients whose bit 1 and then bit 0 are written. */
    private static void lastScan(String what, DctFilter x, int[] counts, int[] symbols, int... data) {
        written(x, 0, 1, 0);
        int size = 21 + symbols.length + 10 + data.length + 2;
        int at = codes(what, x, x.told(-1, 6) - size, 1, counts, symbols);
        end(what, x, scan(what, x, at, 1, 63, 0x10, data));
    }

    /** "bits of those that are not 0 come behind the code (and sign) before which they are passed, those behind the last one behind r = 0" */
    private static void bitsBehindTheCodeBeforeWhichTheyArePassed() {
        // 0 and the bit of coefficient 1, 0 0, 10 1, and a 1.
        lastScan("behind 240", block(new int[] {1, 3}, new int[] {63, 1}), ONE_AND_ONE, new int[] {240, 0xd1}, 0x4b);
        // 10 1 and the bit, 0, and 111.
        lastScan("behind a sign", block(new int[] {1, 3}, new int[] {2, 1}), ONE_AND_ONE, new int[] {0, 1}, 0xb7);
        lastScan("behind another sign", block(new int[] {1, 3}, new int[] {2, -1}), ONE_AND_ONE, new int[] {0, 1}, 0x97);
        // 10 1, 0 and the bit of coefficient 2, and 111.
        lastScan("behind r = 0", block(new int[] {1, 1}, new int[] {2, 3}), ONE_AND_ONE, new int[] {0, 1}, 0xaf);
        lastScan("one below 0", block(new int[] {1, 1}, new int[] {2, -2}), ONE_AND_ONE, new int[] {0, 1}, 0xa7);
    }

    /** "221, if the interval is above 0", "behind each n units, if there are more"; first differences begin anew. */
    private static void intervalsWhenWritten() {
        DctFilter x = flats(1, 1, 1, 1);
        x.restart(2);
        x.encode(50);
        bytes("221", x, BEHIND_FRAME, 255, 221, 0, 4, 0, 2);
        int at = codes("class 0", x, BEHIND_FRAME + 6, 0, ONE_AND_ONE, 0, 1);
        at = codes("class 1", x, at, 1, ONE, 0);
        // 10 1 0, 0 0, and 11, twice.
        end("intervals", x, scan("intervals", x, at, 0, 63, 0, 0xa3, 255, 208, 0xa3));
        x = flats(1, 1, 1, 1);
        x.restart(4);
        x.encode(50);
        at = codes("class 0", x, BEHIND_FRAME + 6, 0, ONE_AND_ONE, 0, 1);
        at = codes("class 1", x, at, 1, ONE, 0);
        // 10 1 0, 0 0, 0 0 | 0 0, and 111111: no marker behind the last unit.
        end("one interval", x, scan("one interval", x, at, 0, 63, 0, 0xa0, 0x3f));
    }

    /** Bits of first ones are joined, so these are moved downward; others grow away from 0, so these are moved toward 0. */
    private static void firstOnesDownwardOthersToward0() {
        DctFilter x = flats(-3);
        written(x, 1);
        // -3 is -2 and one more: s 2, bits 01, and 11111.
        end("first", x, scan("first", x, codes("class 0", x, BEHIND_FRAME, 0, ONE, 2), 0, 0, 1, 0x3f));
        x = written(block(new int[] {1, -3}), 0, 1);
        int at = scan("first", x, codes("class 0", x, BEHIND_FRAME, 0, ONE, 0), 0, 0, 0, 0x7f);
        // -3 is -1 twice and one more: 10 0, 0, and 1111.
        end("others", x, scan("others", x, codes("class 1", x, at, 1, ONE_AND_ONE, 0, 1), 1, 63, 1, 0x8f));
    }
}
