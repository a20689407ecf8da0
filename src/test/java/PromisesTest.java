import java.util.Arrays;

/** Each promise of the document by its number, in ordinary use; BoundariesTest and TermsTest have the edges. */
public final class PromisesTest {
    private static final long[] POINTS = {1000, 500, 1060, 500, 1120, 502, 1180, 503, 1241, 503, 1300, -1};
    /** Where each of these points ends when they are packed. */
    private static final int[] ENDS = {0, 104, 114, 160, 207, 217, 300};

    private final Check check = new Check();

    public static void main(String[] args) {
        PromisesTest test = new PromisesTest();
        test.promise01_newObject();
        test.promise02_add();
        test.promise03_keep();
        test.promise04_pack();
        test.promise04_packInFrames();
        test.promise05_unpack();
        test.promise05_unpackWhatWasPut();
        test.promise06_taken();
        test.promise07_count();
        test.promise08_time();
        test.promise09_value();
        test.promise10_bit();
        test.promise11_flip();
        test.promise12_put();
        test.promise12_putAcrossWords();
        test.promise13_cut();
        test.check.end();
    }

    private void promise01_newObject() {
        check.due("1: a new object", Rows.state(new ChunkPacker()), "taken 0, 0 points , 0 bits ");
    }

    private void promise02_add() {
        ChunkPacker x = new ChunkPacker();
        for (int k = 0; k < 6; k++) {
            check.due("2: add, point " + k, x.add(POINTS[2 * k], POINTS[2 * k + 1]), k + 1);
        }
        check.due("2: the points", Rows.points(x), Rows.told(POINTS));
        check.due("2: the bits", x.count(1), 0);
    }

    private void promise03_keep() {
        ChunkPacker x = Rows.withPoints(POINTS);
        check.due("3: keep(4) of 6", x.keep(4), 2);
        check.due("3: keep(1) of 4", x.keep(1), 3);
        check.due("3: the point that stays", Rows.points(x), Rows.told(1000, 500));
        check.due("3: a time that was below the latest", x.add(1001, 7), 2);
        check.due("3: the points", Rows.points(x), Rows.told(1000, 500, 1001, 7));
        check.due("3: keep(0) of 2", x.keep(0), 2);
        check.due("3: a time below all that were there", x.add(3, 0), 1);
    }

    private void promise04_pack() {
        for (int k = 0; k <= 6; k++) {
            check.due("4: pack() of " + k, Rows.withPoints(Arrays.copyOf(POINTS, 2 * k)).pack(), ENDS[k]);
        }
        ChunkPacker x = Rows.withPoints(POINTS);
        x.pack();
        check.due("4: the bits", Rows.bits(x), Rows.first(1000, 500)
                + "10" + "0111100" + "0"
                + "0" + "11" + "11111" + "011111" + "0".repeat(31) + "1"
                + "0" + "11" + "11111" + "100000" + "0".repeat(32) + "1"
                + "10" + "0000001" + "0"
                + "10" + "1111110" + "11" + "00000" + "111100" + "1".repeat(54) + "1000001");
        check.due("4: the points stay", Rows.points(x), Rows.told(POINTS));
        check.due("4: packed again", x.pack(), 300);
    }

    private void promise04_packInFrames() {
        // Each point's value is told by its difference; the turns are 1 and then 0.
        long[] differences = {
            0b111100L << 40, 0b100000L << 40, 0b000100L << 40, 0, 0b011000L << 40,
            0b000010L << 40, 0b000010L << 40, 0b000110L << 40, 0b000010L << 40, 1, 2, 1
        };
        String[] wanted = {
            "11" + "10010" + "000011" + "1111", // the first frame: bits 45 .. 42
            "10" + "1000", // just its highest bit
            "10" + "0001", // just its lowest bit
            "0", // no difference: the frame stays
            "10" + "0110",
            "11" + "10110" + "000000" + "1", // one bit below it: a frame of its own, bit 41
            "10" + "1",
            "11" + "10101" + "000001" + "11", // one bit above it
            "10" + "01",
            "11" + "11111" + "100000" + "0".repeat(32) + "1",
            "10" + "0".repeat(31) + "10",
            "10" + "0".repeat(32) + "1"
        };
        ChunkPacker x = new ChunkPacker();
        StringBuilder want = new StringBuilder(Rows.first(0, 77));
        long value = 77;
        x.add(0, value);
        for (int k = 0; k < differences.length; k++) {
            value ^= differences[k];
            x.add(k + 1, value);
            want.append(k == 0 ? "100000001" : "0").append(wanted[k]);
        }
        String points = Rows.points(x);
        check.due("4: how many bits in frames", x.pack(), want.length());
        check.due("4: the bits in frames", Rows.bits(x), want.toString());
        x.keep(0);
        check.due("5: frames read again", x.unpack(13), want.length());
        check.due("5: the points read again", Rows.points(x), points);
    }

    private void promise05_unpack() {
        ChunkPacker x = Rows.withPoints(POINTS);
        x.pack();
        for (int k = 6; k >= 0; k--) {
            check.due("5: unpack(" + k + ")", x.unpack(k), ENDS[k]);
            check.due("5: the points", Rows.points(x), Rows.told(Arrays.copyOf(POINTS, 2 * k)));
            check.due("5: the bits stay", x.count(1), 300);
        }
        check.due("5: more points than there were", x.unpack(6), 300);
        check.due("5: a point more than the bits tell", x.unpack(7), ChunkPacker.NONE);
        check.due("5: the points stay", Rows.points(x), Rows.told(POINTS));
        check.due("2: behind what was read", x.add(1301, 4), 7);
    }

    private void promise05_unpackWhatWasPut() {
        ChunkPacker x = new ChunkPacker();
        x.put(5, 40);
        x.put(7, 64);
        Rows.putBits(x, "10" + "0000011" + "0");
        Rows.putBits(x, "0" + "11" + "00100" + "000010" + "101");
        Rows.putBits(x, "110" + "0000001000" + "10" + "001");
        Rows.putBits(x, "1110" + "1111111111000" + "0");
        check.due("5: unpack(5)", x.unpack(5), x.count(1));
        check.due("5: the points", Rows.points(x),
                Rows.told(5, 7, 8, 7, 11, 5L << 57 | 7, 22, 4L << 57 | 7, 25, 4L << 57 | 7));
    }

    private void promise06_taken() {
        ChunkPacker x = Rows.withPoints(POINTS);
        x.pack();
        check.due("6: no unpack() yet", x.taken(), 0);
        x.unpack(4);
        check.due("6: four points", x.taken(), 207);
        x.cut(150);
        x.unpack(4);
        check.due("6: up to n - 1 of the third", x.taken(), 128);
    }

    private void promise07_count() {
        ChunkPacker x = Rows.withPoints(POINTS);
        x.put(1, 3);
        check.due("7: points", x.count(0), 6);
        check.due("7: bits", x.count(1), 3);
    }

    private void promise08_time() {
        ChunkPacker x = Rows.withPoints(POINTS);
        for (int k = 0; k < 6; k++) {
            check.due("8: time(" + k + ")", x.time(k), POINTS[2 * k]);
        }
    }

    private void promise09_value() {
        ChunkPacker x = Rows.withPoints(POINTS);
        for (int k = 0; k < 6; k++) {
            check.due("9: value(" + k + ")", x.value(k), POINTS[2 * k + 1]);
        }
    }

    private void promise10_bit() {
        ChunkPacker x = new ChunkPacker();
        x.put(0b1011, 4);
        check.due("10: bit(0)", x.bit(0), true);
        check.due("10: bit(1)", x.bit(1), false);
        check.due("10: bit(2)", x.bit(2), true);
        check.due("10: bit(3)", x.bit(3), true);
    }

    private void promise11_flip() {
        ChunkPacker x = new ChunkPacker();
        x.put(0b1011, 4);
        x.flip(1);
        check.due("11: a 0", Rows.bits(x), "1111");
        x.flip(2);
        check.due("11: a 1", Rows.bits(x), "1101");
        x.flip(2);
        check.due("11: back again", Rows.bits(x), "1111");
    }

    private void promise12_put() {
        ChunkPacker x = new ChunkPacker();
        check.due("12: put(5, 4)", x.put(5, 4), 4);
        check.due("12: put(2, 2)", x.put(2, 2), 6);
        check.due("12: the bits", Rows.bits(x), "010110");
    }

    /** Numbers of every length from every place in a word, over bits that were cut off. */
    private void promise12_putAcrossWords() {
        for (int start = 0; start < 64; start++) {
            for (int n = 0; n <= 64; n++) {
                ChunkPacker x = Rows.withBits("1".repeat(192));
                x.cut(start);
                long v = n == 0 ? 0 : 0xA5C3_96F0_1E2D_4B87L >>> (64 - n);
                check.due("12: " + n + " bits behind " + start, x.put(v, n), start + n);
                x.put(0, 3);
                check.due("12: the bits, " + n + " behind " + start, Rows.bits(x),
                        "1".repeat(start) + Rows.binary(v, n) + "000");
            }
        }
    }

    private void promise13_cut() {
        ChunkPacker x = Rows.withPoints(POINTS);
        x.pack();
        String bits = Rows.bits(x);
        x.cut(207);
        check.due("13: the bits", Rows.bits(x), bits.substring(0, 207));
        check.due("13: the points stay", x.count(0), 6);
        check.due("13: what is left is read", x.unpack(4), 207);
    }
}
