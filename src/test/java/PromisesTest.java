import java.util.Arrays;

/** Each promise of the document by its number: ordinary inputs, the edges it names, wrong inputs. */
public final class PromisesTest {
    private static final Class<IllegalArgumentException> ARGUMENT = IllegalArgumentException.class;
    private static final Class<IllegalStateException> STATE = IllegalStateException.class;
    private static final Class<IndexOutOfBoundsException> INDEX = IndexOutOfBoundsException.class;
    private static final long LAST_TIME = 1099511627775L;

    private final Check check = new Check();

    public static void main(String[] args) {
        PromisesTest test = new PromisesTest();
        test.newObject();
        test.add();
        test.addToFullRow();
        test.keep();
        test.packFirstPoint();
        test.packTurns();
        test.packValues();
        test.packFrames();
        test.packKeepsNothingOld();
        test.packLongRow();
        test.unpackRight();
        test.unpackTurns();
        test.unpackLongerThanNeedBe();
        test.unpackWrongStepOrTime();
        test.unpackWrongFrame();
        test.unpackWhereBitsEnd();
        test.unpackWrongArguments();
        test.taken();
        test.count();
        test.timeAndValue();
        test.bit();
        test.flip();
        test.put();
        test.putAcrossWords();
        test.putToFullRow();
        test.cut();
        test.check.end();
    }

    // Promise 1

    private void newObject() {
        ChunkPacker x = new ChunkPacker();
        check.due("1: count(0)", x.count(0), 0);
        check.due("1: count(1)", x.count(1), 0);
        check.due("1: taken()", x.taken(), 0);
        check.refused("1: time(0)", INDEX, () -> x.time(0));
        check.refused("1: value(0)", INDEX, () -> x.value(0));
        check.refused("1: bit(0)", INDEX, () -> one(x.bit(0)));
        new ChunkPacker().add(5, 5);
        check.due("1: another object's points", new ChunkPacker().count(0), 0);
    }

    // Promise 2

    private void add() {
        ChunkPacker x = new ChunkPacker();
        check.refused("2: time -1", ARGUMENT, () -> x.add(-1, 0));
        check.refused("2: least time", ARGUMENT, () -> x.add(Long.MIN_VALUE, 0));
        check.refused("2: time too high", ARGUMENT, () -> x.add(LAST_TIME + 1, 0));
        check.refused("2: greatest time", ARGUMENT, () -> x.add(Long.MAX_VALUE, 0));
        check.due("2: count(0) after those", x.count(0), 0);
        check.due("2: time 0", x.add(0, Long.MIN_VALUE), 1);
        check.refused("2: the latest time", ARGUMENT, () -> x.add(0, 1));
        check.due("2: one above", x.add(1, Long.MAX_VALUE), 2);
        check.refused("2: below the latest", ARGUMENT, () -> x.add(0, 1));
        check.due("2: the last time", x.add(LAST_TIME, -1), 3);
        check.refused("2: behind the last time", ARGUMENT, () -> x.add(LAST_TIME, 1));
        check.due("2: count(0)", x.count(0), 3);
        points(x, "2", new long[] {0, Long.MIN_VALUE, 1, Long.MAX_VALUE, LAST_TIME, -1});
        check.due("2: the bits stay", x.count(1), 0);
    }

    private void addToFullRow() {
        ChunkPacker x = fullRow();
        check.due("2: full row", x.count(0), 3000);
        check.refused("2: to a full row", STATE, () -> x.add(3000, 0));
        check.refused("2: a full row and no time", ARGUMENT, () -> x.add(-1, 0));
        check.refused("2: a full row and no time above", ARGUMENT, () -> x.add(LAST_TIME + 1, 0));
        check.refused("2: a full row and the latest time", ARGUMENT, () -> x.add(2999, 0));
        check.due("2: full row still", x.count(0), 3000);
        check.due("2: its last time", x.time(2999), 2999);
        x.keep(2999);
        check.due("2: the 3000th", x.add(2999, 9), 3000);
        check.due("2: its value", x.value(2999), 9);
    }

    // Promise 3

    private void keep() {
        ChunkPacker x = new ChunkPacker();
        check.due("3: keep(0) of none", x.keep(0), 0);
        check.refused("3: keep(1) of none", ARGUMENT, () -> x.keep(1));
        for (int k = 0; k < 5; k++) {
            x.add(10 * k, k);
        }
        x.pack();
        int bits = x.count(1);
        check.refused("3: keep(-1)", ARGUMENT, () -> x.keep(-1));
        check.refused("3: least n", ARGUMENT, () -> x.keep(Integer.MIN_VALUE));
        check.refused("3: keep(6) of 5", ARGUMENT, () -> x.keep(6));
        check.refused("3: greatest n", ARGUMENT, () -> x.keep(Integer.MAX_VALUE));
        check.due("3: count(0) after those", x.count(0), 5);
        check.due("3: keep(5) of 5", x.keep(5), 0);
        check.due("3: keep(4) of 5", x.keep(4), 1);
        check.due("3: keep(1) of 4", x.keep(1), 3);
        points(x, "3", new long[] {0, 0});
        check.refused("3: point 1 is gone", INDEX, () -> x.time(1));
        check.due("3: a time that was there", x.add(1, 7), 2);
        points(x, "3", new long[] {0, 0, 1, 7});
        check.due("3: keep(0) of 2", x.keep(0), 2);
        check.due("3: count(0) of none", x.count(0), 0);
        check.due("3: any time may follow", x.add(0, 0), 1);
        check.due("3: the bits stay", x.count(1), bits);
    }

    // Promise 4

    private void packFirstPoint() {
        ChunkPacker x = new ChunkPacker();
        x.put(5, 3);
        check.due("4: of no points", x.pack(), 0);
        check.due("4: no bits are left", x.count(1), 0);
        x.add(0xA5_0000_00C3L, 0x8000_0000_0000_0005L);
        check.due("4: of one point", x.pack(), 104);
        bits(x, "4: one point", binary(0xA5_0000_00C3L, 40) + binary(0x8000_0000_0000_0005L, 64));
        check.due("4: the points stay", x.count(0), 1);
        check.due("4: taken() stays", x.taken(), 0);
    }

    private void packTurns() {
        turn(0, "0");
        turn(1, "10" + "0000001");
        turn(-1, "10" + "1111111");
        turn(63, "10" + "0111111");
        turn(-64, "10" + "1000000");
        turn(64, "110" + "0001000000");
        turn(-65, "110" + "1110111111");
        turn(511, "110" + "0111111111");
        turn(-512, "110" + "1000000000");
        turn(512, "1110" + "0001000000000");
        turn(-513, "1110" + "1110111111111");
        turn(4095, "1110" + "0111111111111");
        turn(-4096, "1110" + "1000000000000");
        turn(4096, "1111" + binary(4096, 41));
        turn(-4097, "1111" + binary((1L << 41) - 4097, 41));
        turn(1L << 39, "1111" + "01" + "0".repeat(39));
        turn(-(1L << 38), "1111" + "111" + "0".repeat(38));

        ChunkPacker x = new ChunkPacker();
        x.add(0, 0);
        x.add(LAST_TIME, 0);
        check.due("4: the greatest step", x.pack(), 104 + 45 + 1);
        bits(x, "4: the greatest step", "0".repeat(104) + "1111" + "0" + "1".repeat(40) + "0");
        x.keep(0);
        x.add(0, 0);
        x.add(LAST_TIME - 1, 0);
        x.add(LAST_TIME, 0);
        x.pack();
        check.due("4: the least turn is read again", x.unpack(3), 104 + 46 + 46);
        check.due("4: its time", x.time(2), LAST_TIME);
    }

    /** A third point whose step turns so from the second one's. */
    private void turn(long turn, String want) {
        ChunkPacker x = new ChunkPacker();
        long step = turn < 0 ? 1 - turn : 1;
        x.add(0, 0);
        x.add(step, 0);
        x.pack();
        int before = x.count(1);
        x.add(2 * step + turn, 0);
        check.due("4: bits of turn " + turn, x.pack(), before + want.length() + 1);
        bits(x, "4: turn " + turn, before, want + "0");
        check.due("5: turn " + turn + " read again", x.unpack(3), x.count(1));
        check.due("5: its time", x.time(2), 2 * step + turn);
    }

    private void packValues() {
        difference(0, "0");
        difference(-1, "11" + "00000" + "111111" + "1".repeat(64));
        difference(1, "11" + "11111" + "100000" + "0".repeat(32) + "1");
        difference(Long.MIN_VALUE, "11" + "00000" + "000000" + "1");
        difference(1L << 32, "11" + "11111" + "000000" + "1");
        difference(1L << 33, "11" + "11110" + "000000" + "1");
        difference(1L << 31, "11" + "11111" + "000001" + "01");
        difference(0b1011L << 20, "11" + "11111" + "001100" + "000000000" + "1011");
        difference(0b1011L << 50, "11" + "01010" + "000011" + "1011");
        difference(Long.MAX_VALUE, "11" + "00001" + "111110" + "1".repeat(63));
    }

    /** A second point whose value differs so from the first one's. */
    private void difference(long x, String want) {
        ChunkPacker p = new ChunkPacker();
        long first = 0x1234_5678_9ABC_DEF0L;
        p.add(0, first);
        p.add(1, first ^ x);
        check.due("4: bits of difference " + x, p.pack(), 104 + 9 + want.length());
        bits(p, "4: difference " + x, 113, want);
        check.due("5: difference " + x + " read again", p.unpack(2), p.count(1));
        check.due("5: its value", p.value(1), first ^ x);
    }

    private void packFrames() {
        ChunkPacker x = new ChunkPacker();
        // Each point's value is told by its difference; the turns are 1 and then 0.
        long[] differences = {
            0b111100L << 40, 0b100000L << 40, 0b000100L << 40, 0, 0b011000L << 40,
            0b000010L << 40, 0b000010L << 40, 0b000110L << 40, 0b000010L << 40, 1, 2, 1
        };
        String[] wanted = {
            "11" + "10010" + "000011" + "1111", // the first frame: bits 45 .. 42
            "10" + "1000", // just its highest bit
            "10" + "0001", // just its lowest bit
            "0", // no difference: the frame stays
            "10" + "0110",
            "11" + "10110" + "000000" + "1", // one bit below it: a frame of its own, bit 41
            "10" + "1",
            "11" + "10101" + "000001" + "11", // one bit above it
            "10" + "01",
            "11" + "11111" + "100000" + "0".repeat(32) + "1",
            "10" + "0".repeat(31) + "10",
            "10" + "0".repeat(32) + "1"
        };
        StringBuilder want = new StringBuilder();
        long value = 77;
        x.add(0, value);
        for (int k = 0; k < differences.length; k++) {
            value ^= differences[k];
            x.add(k + 1, value);
            want.append(k == 0 ? "100000001" : "0").append(wanted[k]);
        }
        check.due("4: bits in frames", x.pack(), 104 + want.length());
        bits(x, "4: frames", 104, want.toString());
        check.due("5: frames read again", x.unpack(13), 104 + want.length());
        check.due("5: the last value", x.value(12), value);
        // A second pack starts without a frame again.
        check.due("4: packed again", x.pack(), 104 + want.length());
    }

    private void packKeepsNothingOld() {
        ChunkPacker x = new ChunkPacker();
        for (int i = 0; i < 10; i++) {
            x.put(-1, 64);
        }
        x.add(0, 0);
        x.add(1, 0);
        check.due("4: the row becomes that", x.pack(), 114);
        bits(x, "4: the row becomes that", "0".repeat(104) + "1000000010");
        check.due("4: the other row, too", x.pack(), 114);
        bits(x, "4: the other row, too", "0".repeat(104) + "1000000010");
        check.refused("4: behind it", INDEX, () -> one(x.bit(114)));
    }

    /** More calls than the document promises anything for: 3000 points of the dearest kind still fit. */
    private void packLongRow() {
        ChunkPacker x = new ChunkPacker();
        long[] times = new long[3000];
        long[] values = new long[3000];
        for (int k = 1; k < 3000; k++) {
            times[k] = times[k - 1] + (k % 2 == 0 ? 1 : 5000);
            values[k] = values[k - 1] ^ (k % 2 == 0 ? -2L : Long.MAX_VALUE);
        }
        for (int k = 0; k < 3000; k++) {
            x.add(times[k], values[k]);
        }
        int want = 104 + 2999 * (45 + 13 + 63);
        check.due("4: the dearest row", x.pack(), want);
        x.keep(0);
        check.due("5: the dearest row", x.unpack(3000), want);
        for (int k = 0; k < 3000; k++) {
            check.due("5: its time " + k, x.time(k), times[k]);
            check.due("5: its value " + k, x.value(k), values[k]);
        }
    }

    // Promise 5

    private void unpackRight() {
        ChunkPacker x = new ChunkPacker();
        check.due("5: unpack(0) of no bits", x.unpack(0), 0);
        long[] told = {1000, 500, 1060, 500, 1120, 502, 1180, 503, 1241, 503, 1300, -1};
        int[] ends = {0, 104, 114, 160, 207, 217, 300};
        for (int k = 0; k < 6; k++) {
            x.add(told[2 * k], told[2 * k + 1]);
        }
        x.pack();
        for (int k = 6; k >= 0; k--) {
            check.due("5: unpack(" + k + ")", x.unpack(k), ends[k]);
            check.due("5: how many points", x.count(0), k);
            points(x, "5", Arrays.copyOf(told, 2 * k));
            check.due("5: the bits stay", x.count(1), 300);
        }
        check.due("5: more points than there were", x.unpack(6), 300);
        points(x, "5", told);
        check.due("5: a point more than the bits tell", x.unpack(7), ChunkPacker.NONE);
        points(x, "5: the points stay", told);
        check.due("5: how many stay", x.count(0), 6);
        check.due("2: behind what was read", x.add(1301, 4), 7);
    }

    private void unpackTurns() {
        // Every length of turn with its least and greatest number; the second step is long enough for it.
        int[] sizes = {7, 10, 13};
        for (int kind = 1; kind <= 3; kind++) {
            int n = sizes[kind - 1];
            readTurn(kind, n, (1L << (n - 1)) - 1, (1L << (n - 1)) - 1);
            readTurn(kind, n, 1L << (n - 1), -(1L << (n - 1)));
            readTurn(kind, n, (1L << n) - 1, -1);
            readTurn(kind, n, 1, 1);
        }
        readTurn(4, 41, (1L << 41) - 9000, -9000);
        readTurn(4, 41, 1L << 39, 1L << 39);
    }

    private void readTurn(int ones, int n, long written, long turn) {
        ChunkPacker x = secondPoint(10000);
        putBits(x, "1".repeat(ones) + (ones == 4 ? "" : "0") + binary(written, n));
        x.put(0, 1);
        check.due("5: turn " + turn + " in " + n + " bits", x.unpack(3), x.count(1));
        check.due("5: its time", x.time(2), 20000 + turn);
    }

    private void unpackLongerThanNeedBe() {
        int[] sizes = {7, 10, 13, 41};
        for (int kind = 1; kind <= 4; kind++) {
            ChunkPacker x = secondPoint(3);
            putBits(x, "1".repeat(kind) + (kind == 4 ? "" : "0") + "0".repeat(sizes[kind - 1]) + "0");
            check.due("5: turn 0 in " + sizes[kind - 1] + " bits", x.unpack(3), x.count(1));
            check.due("5: its time", x.time(2), 6);
        }
        ChunkPacker x = secondPoint(3);
        putBits(x, "0" + "11" + "00100" + "000010" + "000"); // x is 0 in a new frame
        putBits(x, "0" + "10" + "000"); // and in an old one
        putBits(x, "0" + "10" + "101"); // bits 59 .. 57
        putBits(x, "0" + "11" + "11111" + "100000" + "1" + "0".repeat(32)); // a frame down to bit 0
        putBits(x, "0" + "11" + "00000" + "111111" + "0".repeat(63) + "1"); // all 64 bits for one
        check.due("5: values longer than need be", x.unpack(7), x.count(1));
        points(x, "5: longer", new long[] {
            0, 0, 3, 0, 6, 0, 9, 0, 12, 5L << 57, 15, 5L << 57 | 1L << 32, 18, 5L << 57 | 1L << 32 | 1
        });
    }

    private void unpackWrongStepOrTime() {
        ChunkPacker x = new ChunkPacker();
        x.put(7, 40);
        x.put(7, 64);
        wrong("step 0 of the second point", x, "0", 2, 105);
        wrong("step 0, written long", x, "10" + "0000000", 2, 113);
        wrong("step -1 of the second point", x, "10" + "1111111", 2, 113);
        wrong("step -1 in 41 bits", x, "1111" + "1".repeat(41), 2, 149);
        wrong("the least turn", x, "1111" + "1" + "0".repeat(40), 2, 149);
        wrong("step 0 with bits behind", x, "0" + "0".repeat(50), 2, 105);
        // From step 5 down to 0 and to 1.
        wrong("step 0 of the third point", x, "10" + "0000101" + "0" + "10" + "1111011" + "0", 3, 123);
        right("step 1 of the third point", x, "10" + "0000101" + "0" + "10" + "1111100" + "0", 3);

        ChunkPacker late = new ChunkPacker();
        late.put(LAST_TIME - 2, 40);
        late.put(7, 64);
        right("up to the last time", late, "10" + "0000010" + "0", 2);
        wrong("above the last time", late, "10" + "0000011" + "0", 2, 113);
        right("to the last time in two steps", late, "10" + "0000001" + "0" + "0" + "0", 3);
        wrong("above it in three steps", late, "10" + "0000001" + "0" + "0" + "0" + "0" + "0", 4, 117);
        wrong("the greatest turn", late, "1111" + "0" + "1".repeat(40) + "0", 2, 149);
    }

    private void unpackWrongFrame() {
        ChunkPacker x = secondPoint(1);
        int end = x.count(1);
        wrong("1 0 without a frame", x, "0" + "10" + "1".repeat(64), 3, end + 3);
        wrong("a and n are 65", x, "0" + "11" + "00001" + "111111" + "1".repeat(64), 3, end + 14);
        wrong("a and n are 65 at the other end", x, "0" + "11" + "11111" + "100001" + "1".repeat(64), 3, end + 14);
        wrong("a and n are 95", x, "0" + "11" + "11111" + "111111" + "1".repeat(64), 3, end + 14);
        wrong("a and n are 65 and no bits behind", x, "0" + "11" + "00001" + "111111", 3, end + 14);
        right("a and n are 64", x, "0" + "11" + "00001" + "111110" + "1".repeat(63), 3);
        right("31 and 33 are 64", x, "0" + "11" + "11111" + "100000" + "1".repeat(33), 3);
        right("0 and 64 are 64", x, "0" + "11" + "00000" + "111111" + "1".repeat(64), 3);
        // Neither reading again nor packing leaves a frame behind.
        wrong("1 0 without a frame again", x, "0" + "10" + "1".repeat(64), 3, end + 3);
    }

    private void unpackWhereBitsEnd() {
        ChunkPacker x = new ChunkPacker();
        // The rows of bits that are wanted together, in their order.
        int[] parts = {
            40, 64, // the first point
            1, 1, 7, 1, // turn 1 0, no difference
            1, 1, 1, 10, 1, 1, 5, 6, 4, // turn 1 1 0, a frame of 4 bits
            1, 1, 1, 1, 13, 1, 1, 4, // turn 1 1 1 0, in the frame
            1, 1, 1, 1, 41, 1, // turn 1 1 1 1
            1, 1 // turn 0
        };
        putBits(x, "0".repeat(104));
        putBits(x, "10" + "0000001" + "0");
        putBits(x, "110" + "0000000001" + "11" + "00011" + "000011" + "1001");
        putBits(x, "1110" + "0000000000001" + "10" + "0110");
        putBits(x, "1111" + binary(1, 41) + "0");
        putBits(x, "00");
        int whole = x.count(1);
        check.due("5: the whole row", x.unpack(6), whole);
        for (int end = whole - 1; end >= 0; end--) {
            x.cut(end);
            check.due("5: where the bits end at " + end, x.unpack(6), ChunkPacker.NONE);
            int want = 0;
            for (int p = 0; p < parts.length && want + parts[p] <= end; p++) {
                want += parts[p];
            }
            check.due("6: where the bits end at " + end, x.taken(), want);
            check.due("5: the points stay", x.count(0), 6);
        }
        // In the last point that is read, where nothing behind it could find the end.
        ChunkPacker y = secondPoint(1);
        int end = y.count(1);
        wrong("nothing of the last point", y, "", 3, end);
        wrong("no value of the last point", y, "0", 3, end + 1);
        wrong("half of 1 0", y, "0" + "1", 3, end + 2);
        wrong("no a", y, "0" + "11" + "0000", 3, end + 3);
        wrong("no n - 1", y, "0" + "11" + "00000" + "00000", 3, end + 8);
        wrong("no bits in the frame", y, "0" + "11" + "00000" + "000000", 3, end + 14);
    }

    private void unpackWrongArguments() {
        ChunkPacker x = new ChunkPacker();
        x.add(4, 4);
        x.pack();
        x.unpack(1);
        check.refused("5: unpack(-1)", ARGUMENT, () -> x.unpack(-1));
        check.refused("5: least k", ARGUMENT, () -> x.unpack(Integer.MIN_VALUE));
        check.refused("5: unpack(3001)", ARGUMENT, () -> x.unpack(3001));
        check.refused("5: greatest k", ARGUMENT, () -> x.unpack(Integer.MAX_VALUE));
        points(x, "5: after those", new long[] {4, 4});
        check.due("6: after those", x.taken(), 104);
        check.due("5: unpack(3000)", x.unpack(3000), ChunkPacker.NONE);
        check.due("5: a full row", fullRow().taken(), 104 + 10 + 2 * 2998);
        ChunkPacker full = fullRow();
        check.refused("5: 3001 points are there to read", ARGUMENT, () -> full.unpack(3001));
    }

    private void wrong(String what, ChunkPacker x, String behind, int k, int taken) {
        int before = x.count(1);
        putBits(x, behind);
        int points = x.count(0);
        check.due("5: " + what, x.unpack(k), ChunkPacker.NONE);
        check.due("6: " + what, x.taken(), taken);
        check.due("5: the points stay: " + what, x.count(0), points);
        x.cut(before);
    }

    private void right(String what, ChunkPacker x, String behind, int k) {
        int before = x.count(1);
        putBits(x, behind);
        check.due("5: " + what, x.unpack(k), x.count(1));
        check.due("6: " + what, x.taken(), x.count(1));
        check.due("5: how many points: " + what, x.count(0), k);
        x.cut(before);
    }

    // Promise 6

    private void taken() {
        ChunkPacker x = new ChunkPacker();
        x.add(1, 1);
        x.add(2, 2);
        x.pack();
        check.due("6: none yet", x.taken(), 0);
        x.unpack(2);
        int both = x.count(1);
        check.due("6: both points", x.taken(), both);
        x.add(9, 9);
        x.pack();
        x.cut(50);
        x.flip(3);
        x.put(1, 1);
        x.keep(0);
        check.refused("6: a wrong unpack", ARGUMENT, () -> x.unpack(3001));
        check.due("6: no other call changes it", x.taken(), both);
        x.unpack(1);
        check.due("6: the first number alone is there", x.taken(), 40);
        x.unpack(0);
        check.due("6: of no points", x.taken(), 0);
        x.cut(0);
        x.unpack(1);
        check.due("6: of no bits", x.taken(), 0);
    }

    // Promise 7

    private void count() {
        ChunkPacker x = new ChunkPacker();
        x.add(1, 1);
        x.add(2, 1);
        x.put(1, 3);
        check.due("7: points", x.count(0), 2);
        check.due("7: bits", x.count(1), 3);
        check.refused("7: count(2)", ARGUMENT, () -> x.count(2));
        check.refused("7: count(-1)", ARGUMENT, () -> x.count(-1));
        check.refused("7: least what", ARGUMENT, () -> x.count(Integer.MIN_VALUE));
        check.refused("7: greatest what", ARGUMENT, () -> x.count(Integer.MAX_VALUE));
    }

    // Promises 8 and 9

    private void timeAndValue() {
        ChunkPacker x = new ChunkPacker();
        x.add(0, Long.MIN_VALUE);
        x.add(7, Long.MAX_VALUE);
        x.add(LAST_TIME, -1);
        check.due("8: time(0)", x.time(0), 0);
        check.due("8: time(1)", x.time(1), 7);
        check.due("8: time(2)", x.time(2), LAST_TIME);
        check.due("9: value(0)", x.value(0), Long.MIN_VALUE);
        check.due("9: value(1)", x.value(1), Long.MAX_VALUE);
        check.due("9: value(2)", x.value(2), -1);
        int[] none = {-1, 3, 2999, 3000, Integer.MIN_VALUE, Integer.MAX_VALUE};
        for (int k : none) {
            check.refused("8: time(" + k + ")", INDEX, () -> x.time(k));
            check.refused("9: value(" + k + ")", INDEX, () -> x.value(k));
        }
        ChunkPacker full = fullRow();
        check.due("8: time(2999)", full.time(2999), 2999);
        check.due("9: value(2999)", full.value(2999), 0);
        check.refused("8: time(3000) of a full row", INDEX, () -> full.time(3000));
        check.refused("9: value(3000) of a full row", INDEX, () -> full.value(3000));
    }

    // Promise 10

    private void bit() {
        ChunkPacker x = new ChunkPacker();
        x.put(0b1011, 4);
        check.due("10: bit(0)", x.bit(0), true);
        check.due("10: bit(1)", x.bit(1), false);
        check.due("10: bit(2)", x.bit(2), true);
        check.due("10: bit(3)", x.bit(3), true);
        int[] none = {-1, 4, 64, 399999, 400000, Integer.MIN_VALUE, Integer.MAX_VALUE};
        for (int i : none) {
            check.refused("10: bit(" + i + ")", INDEX, () -> one(x.bit(i)));
        }
    }

    // Promise 11

    private void flip() {
        ChunkPacker x = new ChunkPacker();
        x.put(0, 64);
        x.put(0, 6);
        int[] flipped = {0, 1, 63, 64, 69};
        StringBuilder want = new StringBuilder("0".repeat(70));
        for (int i : flipped) {
            x.flip(i);
            want.setCharAt(i, '1');
            bits(x, "11: flip(" + i + ")", want.toString());
        }
        x.flip(63);
        want.setCharAt(63, '0');
        int[] none = {-1, 70, 71, 400000, Integer.MIN_VALUE, Integer.MAX_VALUE};
        for (int i : none) {
            check.refused("11: flip(" + i + ")", INDEX, () -> { x.flip(i); return 0; });
        }
        bits(x, "11: flipped back", want.toString());
        x.cut(69);
        check.refused("11: a bit that was cut off", INDEX, () -> { x.flip(69); return 0; });
        x.cut(0);
        check.refused("11: of no bits", INDEX, () -> { x.flip(0); return 0; });
    }

    // Promise 12

    private void put() {
        ChunkPacker x = new ChunkPacker();
        check.due("12: put(0, 0)", x.put(0, 0), 0);
        check.due("12: put(1, 1)", x.put(1, 1), 1);
        check.due("12: put(0, 1)", x.put(0, 1), 2);
        check.due("12: put(5, 4)", x.put(5, 4), 6);
        check.due("12: the greatest of 63", x.put(Long.MAX_VALUE, 63), 69);
        check.due("12: -1 of 64", x.put(-1, 64), 133);
        check.due("12: the least of 64", x.put(Long.MIN_VALUE, 64), 197);
        check.due("12: put(0, 0) behind bits", x.put(0, 0), 197);
        String want = "1" + "0" + "0101" + "1".repeat(63) + "1".repeat(64) + "1" + "0".repeat(63);
        bits(x, "12", want);
        check.refused("12: n is -1", ARGUMENT, () -> x.put(0, -1));
        check.refused("12: n is 65", ARGUMENT, () -> x.put(0, 65));
        check.refused("12: least n", ARGUMENT, () -> x.put(0, Integer.MIN_VALUE));
        check.refused("12: greatest n", ARGUMENT, () -> x.put(0, Integer.MAX_VALUE));
        check.refused("12: 1 of no bits", ARGUMENT, () -> x.put(1, 0));
        check.refused("12: -1 of no bits", ARGUMENT, () -> x.put(-1, 0));
        for (int n = 1; n < 64; n++) {
            int bits = n;
            check.refused("12: too great for " + n, ARGUMENT, () -> x.put(1L << bits, bits));
            check.refused("12: a sign in " + n, ARGUMENT, () -> x.put(-1, bits));
        }
        bits(x, "12: after those", want);
    }

    /** Numbers of every length from every place in a word, over bits that were cut off. */
    private void putAcrossWords() {
        for (int start = 0; start < 64; start++) {
            for (int n = 0; n <= 64; n++) {
                ChunkPacker x = new ChunkPacker();
                x.put(-1, 64);
                x.put(-1, 64);
                x.put(-1, 64);
                x.cut(start);
                long v = n == 0 ? 0 : 0xA5C3_96F0_1E2D_4B87L >>> (64 - n);
                check.due("12: " + n + " bits behind " + start, x.put(v, n), start + n);
                x.put(0, 3);
                bits(x, "12: " + n + " bits behind " + start, "1".repeat(start) + binary(v, n) + "000");
            }
        }
    }

    /** More calls than the document promises anything for: but the limit stands. */
    private void putToFullRow() {
        ChunkPacker x = new ChunkPacker();
        for (int i = 0; i < 6249; i++) {
            x.put(-1, 64);
        }
        x.put(0, 63);
        check.refused("12: two bits where one has room", STATE, () -> x.put(3, 2));
        check.refused("12: 64 where one has room", STATE, () -> x.put(0, 64));
        check.refused("12: no room and n is 65", ARGUMENT, () -> x.put(0, 65));
        check.refused("12: no room and no number of n bits", ARGUMENT, () -> x.put(4, 2));
        check.due("12: after those", x.count(1), 399999);
        check.due("12: the last bit", x.put(1, 1), 400000);
        check.due("12: none more", x.put(0, 0), 400000);
        check.refused("12: one more", STATE, () -> x.put(0, 1));
        check.due("10: the last bit", x.bit(399999), true);
        check.due("10: the one before", x.bit(399998), false);
        check.refused("10: behind the last bit", INDEX, () -> one(x.bit(400000)));
        check.due("5: all 1s", x.unpack(2), ChunkPacker.NONE);
        check.due("6: all 1s", x.taken(), 149);
        x.cut(399936);
        check.due("12: into the last word", x.put(5, 64), 400000);
        check.due("10: bit 399997", x.bit(399997), true);
    }

    // Promise 13

    private void cut() {
        ChunkPacker x = new ChunkPacker();
        x.cut(0);
        check.refused("13: cut(1) of none", ARGUMENT, () -> { x.cut(1); return 0; });
        x.add(1, 1);
        putBits(x, "1".repeat(130));
        int[] none = {-1, 131, 400001, Integer.MIN_VALUE, Integer.MAX_VALUE};
        for (int n : none) {
            check.refused("13: cut(" + n + ")", ARGUMENT, () -> { x.cut(n); return 0; });
        }
        check.due("13: after those", x.count(1), 130);
        x.cut(130);
        check.due("13: all stay", x.count(1), 130);
        x.cut(70);
        bits(x, "13: 70 stay", "1".repeat(70));
        check.refused("13: a bit that was cut off", INDEX, () -> one(x.bit(70)));
        check.refused("13: it doesn't come back", ARGUMENT, () -> { x.cut(71); return 0; });
        x.put(0, 64);
        bits(x, "13: other bits behind", "1".repeat(70) + "0".repeat(64));
        x.cut(0);
        check.due("13: none stay", x.count(1), 0);
        check.due("13: the points stay", x.count(0), 1);
    }

    // What several of them use

    /** Points 0 .. 2999 with times of their number, made by few calls. */
    private static ChunkPacker fullRow() {
        ChunkPacker x = new ChunkPacker();
        putBits(x, "0".repeat(104) + "10" + "0000001" + "0");
        for (int i = 0; i < 94; i++) {
            x.put(0, 64);
        }
        x.unpack(3000);
        return x;
    }

    /** The bits of a point 0, 0 and of one that is that step later, with the same value. */
    private static ChunkPacker secondPoint(int step) {
        ChunkPacker x = new ChunkPacker();
        x.put(0, 40);
        x.put(0, 64);
        x.put(15, 4);
        x.put(step, 41);
        x.put(0, 1);
        return x;
    }

    private static void putBits(ChunkPacker x, String bits) {
        for (int i = 0; i < bits.length(); i++) {
            x.put(bits.charAt(i) - '0', 1);
        }
    }

    private static String binary(long v, int n) {
        String digits = "0".repeat(64) + Long.toBinaryString(v);
        return digits.substring(digits.length() - n);
    }

    private void bits(ChunkPacker x, String what, String want) {
        bits(x, what, 0, want);
    }

    /** From bit 'from' on there are these, and none behind. */
    private void bits(ChunkPacker x, String what, int from, String want) {
        StringBuilder got = new StringBuilder();
        for (int i = from; i < x.count(1); i++) {
            got.append(x.bit(i) ? '1' : '0');
        }
        if (!got.toString().equals(want)) {
            check.fault(what + ": the bits are " + got + ", due are " + want);
        }
    }

    /** Times and values, one behind the other. */
    private void points(ChunkPacker x, String what, long[] want) {
        check.due(what + ": points", x.count(0), want.length / 2);
        for (int k = 0; k < x.count(0) && k < want.length / 2; k++) {
            check.due(what + ": time(" + k + ")", x.time(k), want[2 * k]);
            check.due(what + ": value(" + k + ")", x.value(k), want[2 * k + 1]);
        }
    }

    private static long one(boolean bit) {
        return bit ? 1 : 0;
    }
}
