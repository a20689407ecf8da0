/** Each sentence under "Terms" that names a boundary case, in a test of its own. */
public final class TermsTest {
    private static final Class<IllegalArgumentException> ARGUMENT = IllegalArgumentException.class;
    private static final Class<IllegalStateException> STATE = IllegalStateException.class;
    private static final Class<IndexOutOfBoundsException> INDEX = IndexOutOfBoundsException.class;
    private static final int NONE = ChunkPacker.NONE;
    private static final long LAST_TIME = Rows.LAST_TIME;

    /** A point of time 0 and value 0. */
    private static final String FIRST = Rows.first(0, 0);
    /** One that is a step of 1 later, with the same value. */
    private static final String SECOND = "10" + "0000001" + "0";

    private final Check check = new Check();

    public static void main(String[] args) {
        TermsTest test = new TermsTest();
        test.check.runSentences(test);
        test.check.end();
    }

    // What a point and the rows are

    @Sentence(in = "What it is", says = "An object is used for at most 512 calls after it has been made")
    void calls_512() {
        ChunkPacker x = new ChunkPacker();
        for (int k = 0; k < 509; k++) {
            check.due("add, call " + (k + 1), x.add(3 * k, k), k + 1);
        }
        int bits = x.pack();
        check.due("unpack, call 511", x.unpack(509), bits);
        check.due("time, call 512", x.time(508), 3 * 508);
    }

    @Sentence(in = "Terms", says = "A POINT has a TIME, 0 .. 1099511627775")
    void point_time() {
        ChunkPacker x = new ChunkPacker();
        check.due("add of time 0", x.add(0, 3), 1);
        check.due("add of the last time", x.add(LAST_TIME, 4), 2);
        check.due("points", Rows.points(x), Rows.told(0, 3, LAST_TIME, 4));
        check.refused("add of time -1", ARGUMENT, ChunkPacker::new, y -> y.add(-1, 3));
        check.refused("add above the last time", ARGUMENT, ChunkPacker::new, y -> y.add(LAST_TIME + 1, 3));
        right("the last time is read", Rows.first(LAST_TIME, 3), 1, LAST_TIME, 3);
    }

    @Sentence(in = "Terms", says = "and a VALUE, 64 bits with a sign")
    void point_value() {
        long[] values = {Long.MIN_VALUE, Long.MAX_VALUE, -1, 0, 1, Long.MIN_VALUE, 0, -1};
        ChunkPacker x = new ChunkPacker();
        for (int k = 0; k < values.length; k++) {
            x.add(k, values[k]);
        }
        int bits = x.pack();
        x.keep(0);
        check.due("unpack", x.unpack(values.length), bits);
        for (int k = 0; k < values.length; k++) {
            check.due("value(" + k + ")", x.value(k), values[k]);
        }
    }

    @Sentence(in = "Terms", says = "THE ROW OF POINTS has at most 3000")
    void rowOfPoints_3000() {
        ChunkPacker x = Rows.fullOfPoints();
        check.due("count(0) of a full row", x.count(0), 3000);
        check.due("the last point's time", x.time(2999), 2999);
        check.refused("add to a full row", STATE, Rows::fullOfPoints, y -> y.add(3000, 0));
        check.refused("unpack of more", ARGUMENT, Rows::fullOfPoints, y -> y.unpack(3001));
    }

    @Sentence(in = "Terms", says = "with rising times")
    void rowOfPoints_risingTimes() {
        Check.Made made = () -> Rows.withPoints(5, 0, 9, 0);
        check.refused("add of the same time", ARGUMENT, made, x -> x.add(9, 0));
        check.refused("add between two", ARGUMENT, made, x -> x.add(7, 0));
        check.due("add of the next time", made.make().add(10, 0), 3);
        wrong("a time that stays is read", FIRST + "0" + "0", 2, 105);
        wrong("a time that falls is read", Rows.first(9, 0) + "10" + "1111111" + "0", 2, 113);
    }

    @Sentence(in = "Terms", says = "THE ROW OF BITS has at most 400000")
    void rowOfBits_400000() {
        ChunkPacker x = Rows.longRow(399999, "01");
        check.due("put of the last bit", x.put(0, 1), 400000);
        check.due("bit(399997)", x.bit(399997), false);
        check.due("bit(399998)", x.bit(399998), true);
        check.due("bit(399999)", x.bit(399999), false);
        check.refused("put of one more", STATE, () -> Rows.longRow(400000, ""), y -> y.put(0, 1));
    }

    @Sentence(in = "Terms", says = "a number of n bits stands in it with its highest bit first")
    void rowOfBits_highestBitFirst() {
        check.due("6 of 4 bits", Rows.bits(put(6, 4)), "0110");
        check.due("1 of 64 bits", Rows.bits(put(1, 64)), "0".repeat(63) + "1");
        check.due("the least of 64 bits", Rows.bits(put(Long.MIN_VALUE, 64)), "1" + "0".repeat(63));
        ChunkPacker x = put(0, 61);
        x.put(0b110101, 6);
        check.due("over the end of 64 bits", Rows.bits(x), "0".repeat(61) + "110101");
    }

    // How points are packed

    @Sentence(in = "Terms", says = "The first point is its time (40 bits) and its value (64).")
    void first_timeAndValue() {
        check.due("least", packed(0, 0), "0".repeat(104));
        check.due("the last time, value -1", packed(LAST_TIME, -1), "1".repeat(104));
        check.due("time 1, the least value", packed(1, Long.MIN_VALUE), "0".repeat(39) + "1" + "1" + "0".repeat(63));
        check.due("the highest bit of a time", packed(1L << 39, 1), "1" + "0".repeat(39) + "0".repeat(63) + "1");
    }

    @Sentence(in = "Terms", says = "the TURN its step less the step before (its step, for the second point)")
    void turn_ofSecondPoint() {
        check.due("a step of 1", behindFirst(0, 0, 1, 0), "10" + "0000001" + "0");
        check.due("behind a first point that is late", packed(500, 0, 501, 0), Rows.first(500, 0) + SECOND);
        check.due("the greatest step", behindFirst(0, 0, LAST_TIME, 0), "1111" + "0" + "1".repeat(40) + "0");
        check.due("the third's step is as the second's", behindFirst(0, 0, 1, 0, 2, 0), SECOND + "0" + "0");
        check.due("the third's step is 1 more", behindFirst(0, 0, 1, 0, 3, 0), SECOND + "10" + "0000001" + "0");
    }

    @Sentence(in = "Terms", says = "First its turn: the bit 0 for 0")
    void turn_0() {
        turn(0, "0");
        turn(1, "10" + "0000001");
        turn(-1, "10" + "1111111");
    }

    @Sentence(in = "Terms", says = "else 1 0 and 7 bits for -64 .. 63")
    void turn_7Bits() {
        turn(63, "10" + "0111111");
        turn(64, "110" + "0001000000");
        turn(-64, "10" + "1000000");
        turn(-65, "110" + "1110111111");
    }

    @Sentence(in = "Terms", says = "1 1 0 and 10 bits for -512 .. 511")
    void turn_10Bits() {
        turn(511, "110" + "0111111111");
        turn(512, "1110" + "0001000000000");
        turn(-512, "110" + "1000000000");
        turn(-513, "1110" + "1110111111111");
    }

    @Sentence(in = "Terms", says = "1 1 1 0 and 13 bits for -4096 .. 4095")
    void turn_13Bits() {
        turn(4095, "1110" + "0111111111111");
        turn(4096, "1111" + "0".repeat(28) + "1" + "0".repeat(12));
        turn(-4096, "1110" + "1000000000000");
        turn(-4097, "1111" + "1".repeat(28) + "0" + "1".repeat(12));
    }

    @Sentence(in = "Terms", says = "else 1 1 1 1 and 41 bits")
    void turn_41Bits() {
        turn(1L << 39, "1111" + "01" + "0".repeat(39));
        turn(-(1L << 38), "1111" + "111" + "0".repeat(38));
        String greatest = "1111" + "0" + "1".repeat(40) + "0";
        check.due("the greatest turn of all", behindFirst(0, 0, LAST_TIME, 0), greatest);
        right("the greatest turn of all", FIRST + greatest, 2, 0, 0, LAST_TIME, 0);
        String least = "1111" + "0" + "1".repeat(39) + "0" + "0" + "1111" + "1" + "0".repeat(38) + "11" + "0";
        check.due("the least turn of all", behindFirst(0, 0, LAST_TIME - 1, 0, LAST_TIME, 0), least);
        right("the least turn of all", FIRST + least, 3, 0, 0, LAST_TIME - 1, 0, LAST_TIME, 0);
    }

    @Sentence(in = "Terms", says = "(all modulo 2 to the number of bits")
    void turn_modulo() {
        check.due("-1 is written as 2^7 - 1", turnBits(-1), "10" + Rows.binary((1L << 7) - 1, 7));
        check.due("-100 as 2^10 - 100", turnBits(-100), "110" + Rows.binary((1L << 10) - 100, 10));
        check.due("-1000 as 2^13 - 1000", turnBits(-1000), "1110" + Rows.binary((1L << 13) - 1000, 13));
        check.due("-10000 as 2^41 - 10000", turnBits(-10000), "1111" + Rows.binary((1L << 41) - 10000, 41));
        // Behind a step of 10000, so that each turn leaves a step that is right.
        int[] sizes = {7, 10, 13, 41};
        for (int kind = 1; kind <= 4; kind++) {
            int n = sizes[kind - 1];
            readTurn(kind, n, "1".repeat(n), -1);
            readTurn(kind, n, "0".repeat(n - 1) + "1", 1);
            if (n < 41) {
                readTurn(kind, n, "1" + "0".repeat(n - 1), -(1L << (n - 1)));
                readTurn(kind, n, "0" + "1".repeat(n - 1), (1L << (n - 1)) - 1);
            }
        }
        wrong("the least number of 41 bits is below 0", FIRST + "1111" + "1" + "0".repeat(40) + "0", 2, 149);
    }

    @Sentence(in = "Terms", says = "the shortest that can be is written)")
    void turn_shortest() {
        long[] ends = {0, 1, 63, 64, 511, 512, 4095, 4096};
        int[] sizes = {1, 9, 9, 13, 13, 17, 17, 45};
        for (int i = 0; i < ends.length; i++) {
            check.due("bits of turn " + ends[i], turnBits(ends[i]).length(), sizes[i]);
        }
        long[] below = {-1, -64, -65, -512, -513, -4096, -4097};
        int[] belowSizes = {9, 9, 13, 13, 17, 17, 45};
        for (int i = 0; i < below.length; i++) {
            check.due("bits of turn " + below[i], turnBits(below[i]).length(), belowSizes[i]);
        }
    }

    @Sentence(in = "Terms", says = "the bit 0 for x = 0")
    void value_same() {
        check.due("the same value", behindFirst(0, 0, 1, 0), "10" + "0000001" + "0");
        check.due("the same value of all 1s", packed(0, -1, 1, -1), Rows.first(0, -1) + "10" + "0000001" + "0");
        check.due("behind another value, the frame stays",
                behindFirst(0, 0, 1, 1L << 63, 2, 1L << 63, 3, 0),
                "10" + "0000001" + "11" + "00000" + "000000" + "1" + "0" + "0" + "0" + "10" + "1");
    }

    @Sentence(in = "Terms", says = "let a be the number of 0s above the highest 1 of x, but at most 31")
    void value_zerosAbove() {
        difference(1L << 63, "11" + "00000" + "000000" + "1");
        difference(1L << 33, "11" + "11110" + "000000" + "1");
        difference(1L << 32, "11" + "11111" + "000000" + "1");
        difference(1L << 31, "11" + "11111" + "000001" + "01");
        difference(1L << 1, "11" + "11111" + "011111" + "0".repeat(31) + "1");
        difference(1, "11" + "11111" + "100000" + "0".repeat(32) + "1");
    }

    @Sentence(in = "Terms", says = "b that of those below the lowest 1")
    void value_zerosBelow() {
        difference(-1L << 63, "11" + "00000" + "000000" + "1");
        difference(-1L << 32, "11" + "00000" + "011111" + "1".repeat(32));
        difference(-1L << 1, "11" + "00000" + "111110" + "1".repeat(63));
        difference(-1L, "11" + "00000" + "111111" + "1".repeat(64));
    }

    @Sentence(in = "Terms", says = "if there is a FRAME (a', n'), and a is at least a'")
    void frame_above() {
        // The frame has 4 bits behind the 3 highest ones.
        inFrame(0b0001111L << 57, 0b0001000L << 57, "10" + "1000");
        inFrame(0b0001111L << 57, 0b0000111L << 57, "10" + "0111");
        inFrame(0b0001111L << 57, 0b0010000L << 57, "11" + "00010" + "000000" + "1");
        inFrame(0b0001111L << 57, 0b0011000L << 57, "11" + "00010" + "000001" + "11");
        // a is at most 31, also where there are more 0s.
        inFrame((1L << 33) - 1, 1, "10" + "0".repeat(32) + "1");
        inFrame((1L << 33) - 1, 1L << 33, "11" + "11110" + "000000" + "1");
    }

    @Sentence(in = "Terms", says = "and b at least 64 - a' - n'")
    void frame_below() {
        inFrame(0b0001111L << 57, 0b0000001L << 57, "10" + "0001");
        inFrame(0b0001111L << 57, 1L << 56, "11" + "00111" + "000000" + "1");
        inFrame(0b0001111L << 57, 0b00000011L << 56, "11" + "00110" + "000001" + "11");
        inFrame(-1, 1, "10" + "0".repeat(63) + "1");
        inFrame(-2, 1, "11" + "11111" + "100000" + "0".repeat(32) + "1");
    }

    @Sentence(in = "Terms", says = "1 0, and the n' bits of x behind its a' highest ones")
    void frame_bits() {
        inFrame(1L << 63, 1L << 63, "10" + "1");
        inFrame(-1, -1, "10" + "1".repeat(64));
        inFrame(-1, 1L << 63, "10" + "1" + "0".repeat(63));
        inFrame(0b0001111L << 57, 0b0000110L << 57, "10" + "0110");
        inFrame(1L << 32, 1L << 32, "10" + "1");
    }

    @Sentence(in = "Terms", says = "else 1 1, a (5 bits), n - 1 (6 bits), n being 64 - a - b")
    void frame_told() {
        difference(1L << 63, "11" + "00000" + "000000" + "1");
        difference(-1, "11" + "00000" + "111111" + "1".repeat(64));
        difference((1L << 33) - 1, "11" + "11111" + "100000" + "1".repeat(33));
        difference(0b101L << 40, "11" + "10101" + "000010" + "101");
    }

    @Sentence(in = "Terms", says = "(a, n) is the frame then.")
    void frame_becomes() {
        // 4 bits behind 3; one bit of its own above them; then what the first frame had held.
        check.due("packed", behindFirst(0, 0, 1, 0xFL << 57, 2, 0x1FL << 57, 3, 0x17L << 57),
                "10" + "0000001" + "11" + "00011" + "000011" + "1111"
                        + "0" + "11" + "00010" + "000000" + "1"
                        + "0" + "11" + "00011" + "000000" + "1");
        // 1 bit behind 31, then 2 behind 0: what stands behind 1 0 stands in the second.
        right("read", FIRST + SECOND
                + "0" + "11" + "11111" + "000000" + "1"
                + "0" + "11" + "00000" + "000001" + "01"
                + "0" + "10" + "11", 5,
                0, 0, 1, 0, 2, 1L << 32, 3, 1L << 62 | 1L << 32, 4, 1L << 63 | 1L << 32);
    }

    @Sentence(in = "Terms", says = "There is none at first.")
    void frame_noneAtFirst() {
        ChunkPacker x = Rows.withPoints(0, 0, 1, -1);
        String want = FIRST + "10" + "0000001" + "11" + "00000" + "111111" + "1".repeat(64);
        x.pack();
        check.due("packed", Rows.bits(x), want);
        x.pack();
        check.due("packed again", Rows.bits(x), want);
        x.unpack(2);
        x.pack();
        check.due("packed when a frame has been read", Rows.bits(x), want);
        x.cut(113);
        Rows.putBits(x, "10" + "1".repeat(64));
        check.due("read when a frame has been packed and read", x.unpack(2), NONE);
        check.due("its taken()", x.taken(), 115);
    }

    // What it is to read, and where that is wrong

    @Sentence(in = "Terms", says = "TO READ k points is to read them so, from the first bit on.")
    void read_fromFirstBit() {
        String bits = FIRST + SECOND + "0" + "0";
        ChunkPacker x = Rows.withBits(bits);
        int[] ends = {0, 104, 114, 116};
        for (int k : new int[] {3, 0, 2, 1, 3}) {
            check.due("unpack(" + k + ")", x.unpack(k), ends[k]);
            check.due("count(0)", x.count(0), k);
        }
        check.due("points", Rows.points(x), Rows.told(0, 0, 1, 0, 2, 0));
        check.due("bits", Rows.bits(x), bits);
        check.due("what stands behind the points is free", Rows.withBits(FIRST + "1".repeat(200)).unpack(1), 104);
    }

    @Sentence(in = "Terms", says = "It is WRONG where bits are wanted that are not there")
    void read_bitsNotThere() {
        wrong("no bits", "", 1, 0);
        wrong("no value of the first point", "0".repeat(40), 1, 40);
        wrong("no second point", FIRST, 2, 104);
        wrong("a turn of 1", FIRST + "1", 2, 105);
        wrong("a turn of 1 0", FIRST + "10", 2, 106);
        wrong("a turn of 1 1", FIRST + "11", 2, 106);
        wrong("a turn of 1 1 0", FIRST + "110", 2, 107);
        wrong("a turn of 1 1 1", FIRST + "111", 2, 107);
        wrong("a turn of 1 1 1 0", FIRST + "1110", 2, 108);
        wrong("a turn of 1 1 1 1", FIRST + "1111", 2, 108);
        wrong("no value", FIRST + "10" + "0000001", 2, 113);
        wrong("a value of 1", FIRST + "10" + "0000001" + "1", 2, 114);
        wrong("a value of 1 1", FIRST + "10" + "0000001" + "11", 2, 115);
        wrong("a alone", FIRST + "10" + "0000001" + "11" + "00000", 2, 120);
        wrong("a and n - 1 alone", FIRST + "10" + "0000001" + "11" + "00000" + "000000", 2, 126);
        String framed = FIRST + "10" + "0000001" + "11" + "00000" + "000000" + "1";
        wrong("no bits in an old frame", framed + "0" + "10", 3, 130);
        right("the last bit is there", framed + "0" + "10" + "1", 3, 0, 0, 1, Long.MIN_VALUE, 2, 0);
    }

    @Sentence(in = "Terms", says = "(those of one number are wanted together)")
    void read_numberTogether() {
        number("the time", "", 40, "0".repeat(64), 1);
        number("the value", "0".repeat(40), 64, "", 1);
        number("a turn of 7", FIRST + "10", 7, "0", 2);
        number("a turn of 10", FIRST + "110", 10, "0", 2);
        number("a turn of 13", FIRST + "1110", 13, "0", 2);
        number("a turn of 41", FIRST + "1111", 41, "0", 2);
        number("a", FIRST + SECOND + "0" + "11", 5, "000000" + "1".repeat(1), 3);
        number("n - 1", FIRST + SECOND + "0" + "11" + "00000", 6, "11", 3);
        number("a new frame of 64", FIRST + SECOND + "0" + "11" + "00000" + "111111", 64, "", 3);
        number("an old frame of 64", FIRST + SECOND + "0" + "11" + "00000" + "111111" + "1".repeat(64) + "0" + "10",
                64, "", 4);
    }

    @Sentence(in = "Terms", says = "behind a turn, if the step is below 1")
    void read_stepBelow1() {
        wrong("step 0", FIRST + "0" + "0", 2, 105);
        wrong("step 0 in 7 bits", FIRST + "10" + "0000000" + "0", 2, 113);
        wrong("step 0 in 41 bits", FIRST + "1111" + "0".repeat(41) + "0", 2, 149);
        wrong("step -1", Rows.first(LAST_TIME, 0) + "10" + "1111111" + "0", 2, 113);
        wrong("the least step", Rows.first(LAST_TIME, 0) + "1111" + "1" + "0".repeat(40) + "0", 2, 149);
        right("step 1", FIRST + SECOND, 2, 0, 0, 1, 0);
        // The second step is 5.
        String five = Rows.first(70, 0) + "10" + "0000101" + "0";
        right("from 5 to 1", five + "10" + "1111100" + "0", 3, 70, 0, 75, 0, 76, 0);
        wrong("from 5 to 0", five + "10" + "1111011" + "0", 3, 123);
        wrong("from 5 to -1", five + "10" + "1111010" + "0", 3, 123);
        wrong("it is found before the value is wanted", FIRST + "0", 2, 105);
    }

    @Sentence(in = "Terms", says = "or the time would be above 1099511627775")
    void read_timeAbove() {
        String late = Rows.first(LAST_TIME - 4, 0);
        right("up to the last time", late + "10" + "0000100" + "0", 2, LAST_TIME - 4, 0, LAST_TIME, 0);
        wrong("one above", late + "10" + "0000101" + "0", 2, 113);
        right("in two steps", late + "10" + "0000010" + "0" + "0" + "0", 3,
                LAST_TIME - 4, 0, LAST_TIME - 2, 0, LAST_TIME, 0);
        wrong("one above in two steps", late + "10" + "0000010" + "0" + "10" + "0000001" + "0", 3, 123);
        wrong("behind the last time", Rows.first(LAST_TIME, 0) + SECOND, 2, 113);
        right("the greatest step from time 0", FIRST + "1111" + "0" + "1".repeat(40) + "0", 2, 0, 0, LAST_TIME, 0);
        wrong("the greatest step from time 1", Rows.first(1, 0) + "1111" + "0" + "1".repeat(40) + "0", 2, 149);
        wrong("it is found before the value is wanted", late + "10" + "0000101", 2, 113);
    }

    @Sentence(in = "Terms", says = "behind 1 0, if there is no frame")
    void read_noFrame() {
        String second = FIRST + "10" + "0000001";
        wrong("the second point", second + "10" + "1".repeat(64), 2, 115);
        wrong("nothing stands behind", second + "10", 2, 115);
        wrong("behind points of the same value", second + "0" + "0" + "0" + "0" + "10" + "1".repeat(64), 4, 119);
        right("there is one", second + "11" + "00000" + "000000" + "1" + "0" + "10" + "1", 3,
                0, 0, 1, Long.MIN_VALUE, 2, 0);
        ChunkPacker x = Rows.withBits(second + "11" + "00000" + "000000" + "1" + "0" + "10" + "1");
        x.unpack(3);
        x.flip(114);
        check.due("the one of an earlier unpack() is none", x.unpack(2), NONE);
        check.due("its taken()", x.taken(), 115);
    }

    @Sentence(in = "Terms", says = "behind n - 1, if a and n are together more than 64.")
    void read_frameTooLong() {
        for (int a = 0; a <= 31; a++) {
            String told = FIRST + "10" + "0000001" + "11" + Rows.binary(a, 5);
            int n = 64 - a;
            long lowest = n == 64 ? -1 : (1L << n) - 1;
            right(a + " and " + n, told + Rows.binary(n - 1, 6) + "1".repeat(n), 2, 0, 0, 1, lowest);
            if (a > 0) {
                wrong(a + " and " + (n + 1), told + Rows.binary(n, 6) + "1".repeat(64), 2, 126);
                wrong(a + " and 64", told + "111111" + "1".repeat(64), 2, 126);
            }
        }
        wrong("nothing stands behind", FIRST + "10" + "0000001" + "11" + "00001" + "111111", 2, 126);
    }

    @Sentence(in = "Terms", says = "(Turns and values may be written longer than need be")
    void read_longerThanNeedBe() {
        String step = FIRST + "1111" + Rows.binary(10000, 41) + "0";
        String[] kinds = {"10", "110", "1110", "1111"};
        int[] sizes = {7, 10, 13, 41};
        long[] turns = {0, 1, -1, 63, -64, 511, -512, 4095, -4096};
        int[] shortest = {0, 0, 0, 0, 0, 1, 1, 2, 2};
        for (int t = 0; t < turns.length; t++) {
            for (int kind = shortest[t]; kind < 4; kind++) {
                right("turn " + turns[t] + " in " + sizes[kind] + " bits",
                        step + kinds[kind] + Rows.binary(turns[t], sizes[kind]) + "0", 3,
                        0, 0, 10000, 0, 20000 + turns[t], 0);
            }
        }
        String second = FIRST + "10" + "0000001";
        right("0s above the highest 1", second + "11" + "00000" + "000011" + "0001", 2, 0, 0, 1, 1L << 60);
        right("0s below the lowest 1", second + "11" + "00000" + "000011" + "1000", 2, 0, 0, 1, 1L << 63);
        right("a frame told where the old one would do",
                second + "11" + "00000" + "000001" + "11" + "0" + "11" + "00000" + "000000" + "1", 3,
                0, 0, 1, 3L << 62, 2, 1L << 62);
    }

    @Sentence(in = "Terms", says = "x may be 0 then.)")
    void read_differenceOf0() {
        String second = FIRST + "10" + "0000001";
        right("in a new frame", second + "11" + "00100" + "000010" + "000", 2, 0, 0, 1, 0);
        right("it is the frame then", second + "11" + "00100" + "000010" + "000" + "0" + "10" + "101", 3,
                0, 0, 1, 0, 2, 5L << 57);
        right("in an old frame", second + "11" + "00100" + "000010" + "101" + "0" + "10" + "000", 3,
                0, 0, 1, 5L << 57, 2, 5L << 57);
        right("in a frame of 64", second + "11" + "00000" + "111111" + "0".repeat(64), 2, 0, 0, 1, 0);
    }

    // What is thrown

    @Sentence(in = "Terms", says = "Methods throw what their comments name, the one named first when several would do.")
    void thrown_firstNamed() {
        check.refused("add: no time and 3000 points", ARGUMENT, Rows::fullOfPoints, x -> x.add(-1, 0));
        check.refused("add: too late and 3000 points", ARGUMENT, Rows::fullOfPoints, x -> x.add(LAST_TIME + 1, 0));
        check.refused("add: the latest time and 3000 points", ARGUMENT, Rows::fullOfPoints, x -> x.add(2999, 0));
        check.refused("add: an old time and 3000 points", ARGUMENT, Rows::fullOfPoints, x -> x.add(0, 0));
        Check.Made full = () -> Rows.longRow(400000, "");
        check.refused("put: n is -1 and 400000 bits", ARGUMENT, full, x -> x.put(0, -1));
        check.refused("put: n is 65 and 400000 bits", ARGUMENT, full, x -> x.put(0, 65));
        check.refused("put: no number of n bits and 400000 bits", ARGUMENT, full, x -> x.put(2, 1));
    }

    @Sentence(in = "Terms", says = "IndexOutOfBoundsException: there is no such bit or point.")
    void thrown_noSuchBitOrPoint() {
        Check.Made made = () -> {
            ChunkPacker x = Rows.withPoints(3, 4, 5, 6);
            x.put(5, 3);
            return x;
        };
        int[] noPoint = {-1, 2, 3, 2999, 3000, Integer.MIN_VALUE, Integer.MAX_VALUE};
        for (int k : noPoint) {
            check.refused("time(" + k + ")", INDEX, made, x -> x.time(k));
            check.refused("value(" + k + ")", INDEX, made, x -> x.value(k));
        }
        int[] noBit = {-1, 3, 4, 63, 64, 399999, 400000, Integer.MIN_VALUE, Integer.MAX_VALUE};
        for (int i : noBit) {
            check.refused("bit(" + i + ")", INDEX, made, x -> x.bit(i) ? 1 : 0);
            check.refused("flip(" + i + ")", INDEX, made, x -> flip(x, i));
        }
    }

    @Sentence(in = "Terms", says = "A call that throws changes nothing.")
    void thrown_changesNothing() {
        // It has packed, 104 + 54 + 86 bits, and has read something wrong: all that it holds is in use.
        Check.Made made = () -> {
            ChunkPacker x = Rows.withPoints(3, 4, 5, 6, 9, -1);
            x.pack();
            x.unpack(4);
            x.keep(2);
            return x;
        };
        check.due("what it holds", Rows.state(made.make()).startsWith("taken 244, 2 points [3 4][5 6], 244 bits 0"), true);
        check.refused("add", ARGUMENT, made, x -> x.add(5, 7));
        check.refused("keep", ARGUMENT, made, x -> x.keep(3));
        check.refused("unpack", ARGUMENT, made, x -> x.unpack(-1));
        check.refused("unpack of too many", ARGUMENT, made, x -> x.unpack(3001));
        check.refused("count", ARGUMENT, made, x -> x.count(2));
        check.refused("time", INDEX, made, x -> x.time(2));
        check.refused("value", INDEX, made, x -> x.value(2));
        check.refused("bit", INDEX, made, x -> x.bit(244) ? 1 : 0);
        check.refused("flip", INDEX, made, x -> flip(x, 244));
        check.refused("put", ARGUMENT, made, x -> x.put(2, 1));
        check.refused("cut", ARGUMENT, made, x -> cut(x, 245));
        check.refused("add to a full row", STATE, Rows::fullOfPoints, x -> x.add(LAST_TIME, 7));
        check.refused("put to a full row", STATE, () -> Rows.longRow(399990, "0"), x -> x.put(-1, 64));
    }

    // What several of them use

    private static ChunkPacker put(long v, int n) {
        ChunkPacker x = new ChunkPacker();
        x.put(v, n);
        return x;
    }

    private static long flip(ChunkPacker x, int i) {
        x.flip(i);
        return 0;
    }

    private static long cut(ChunkPacker x, int n) {
        x.cut(n);
        return 0;
    }

    private static String packed(long... timesAndValues) {
        ChunkPacker x = Rows.withPoints(timesAndValues);
        x.pack();
        return Rows.bits(x);
    }

    private static String behindFirst(long... timesAndValues) {
        return packed(timesAndValues).substring(104);
    }

    /** The bits of a third point's turn, when its step turns so from the second one's. */
    private static String turnBits(long turn) {
        long step = turn < 0 ? 1 - turn : 1;
        int before = packed(0, 0, step, 0).length();
        String all = packed(0, 0, step, 0, 2 * step + turn, 0);
        return all.substring(before, all.length() - 1);
    }

    private void turn(long turn, String want) {
        check.due("turn " + turn, turnBits(turn), want);
        long step = turn < 0 ? 1 - turn : 1;
        String bits = packed(0, 0, step, 0) + want + "0";
        right("turn " + turn, bits, 3, 0, 0, step, 0, 2 * step + turn, 0);
    }

    private void readTurn(int ones, int n, String written, long turn) {
        String kind = "1".repeat(ones) + (ones == 4 ? "" : "0");
        right("turn " + turn + " in " + n + " bits",
                FIRST + "1111" + Rows.binary(10000, 41) + "0" + kind + written + "0", 3,
                0, 0, 10000, 0, 20000 + turn, 0);
    }

    /** The second point's value differs so from the first one's. */
    private void difference(long x, String want) {
        long first = 0x1234_5678_9ABC_DEF0L;
        String second = "10" + "0000001" + want;
        check.due("difference " + x, packed(0, first, 1, first ^ x), Rows.first(0, first) + second);
        right("difference " + x, Rows.first(0, first) + second, 2, 0, first, 1, first ^ x);
    }

    /** The third point's value differs by x when the second one's difference has made the frame. */
    private void inFrame(long frame, long x, String want) {
        String second = packed(0, 0, 1, frame);
        check.due("difference " + x + " in the frame of " + frame,
                packed(0, 0, 1, frame, 2, frame ^ x), second + "0" + want);
        right("difference " + x + " in the frame of " + frame, second + "0" + want, 3,
                0, 0, 1, frame, 2, frame ^ x);
    }

    /** Where a number of n bits is wanted, none of fewer are taken, and all of n are; with what stands behind, all is right. */
    private void number(String what, String before, int n, String behind, int k) {
        String bits = "0".repeat(n - 1) + "1";
        for (int there = 0; there < n; there++) {
            wrong(what + ", " + there + " of its bits", before + bits.substring(0, there), k, before.length());
        }
        ChunkPacker x = Rows.withBits(before + bits + behind);
        check.due(what + ", all of its bits", x.unpack(k), before.length() + n + behind.length());
        if (!behind.isEmpty()) {
            wrong(what + ", all of its bits and no more", before + bits, k, before.length() + n);
        }
    }

    private void right(String what, String bits, int k, long... want) {
        ChunkPacker x = Rows.withPoints(3, 4, 5, 6);
        Rows.putBits(x, bits);
        check.due(what + ": unpack(" + k + ")", x.unpack(k), bits.length());
        check.due(what + ": taken()", x.taken(), bits.length());
        check.due(what + ": the points", Rows.points(x), Rows.told(want));
        check.due(what + ": the bits", Rows.bits(x), bits);
    }

    private void wrong(String what, String bits, int k, int taken) {
        ChunkPacker x = Rows.withPoints(3, 4, 5, 6);
        Rows.putBits(x, bits);
        check.due(what + ": unpack(" + k + ")", x.unpack(k), NONE);
        check.due(what + ": taken()", x.taken(), taken);
        check.due(what + ": the points", Rows.points(x), Rows.told(3, 4, 5, 6));
        check.due(what + ": the bits", Rows.bits(x), bits);
    }
}
