import java.util.Arrays;

/** Each sentence of the promises that names a boundary case, in a test of its own. */
public final class BoundariesTest {
    private static final Class<IllegalArgumentException> ARGUMENT = IllegalArgumentException.class;
    private static final Class<IllegalStateException> STATE = IllegalStateException.class;
    private static final Class<IndexOutOfBoundsException> INDEX = IndexOutOfBoundsException.class;
    private static final int NONE = ChunkPacker.NONE;
    private static final long LAST_TIME = Rows.LAST_TIME;

    /** A point of time 0 and value 0, and one that is a step of 1 later. */
    private static final String TWO_POINTS = Rows.first(0, 0) + "10" + "0000001" + "0";

    private final Check check = new Check();

    public static void main(String[] args) {
        BoundariesTest test = new BoundariesTest();
        test.check.runSentences(test);
        test.check.end();
    }

    // Promise 1

    @Sentence(in = "Promise 1: A new object", says = "No points, no bits.")
    void promise01_noPointsNoBits() {
        check.due("state", Rows.state(new ChunkPacker()), "taken 0, 0 points , 0 bits ");
        check.due("pack()", new ChunkPacker().pack(), 0);
        check.due("unpack(0)", new ChunkPacker().unpack(0), 0);
        check.due("unpack(1)", new ChunkPacker().unpack(1), NONE);
        check.due("keep(0)", new ChunkPacker().keep(0), 0);
        check.refused("time(0)", INDEX, ChunkPacker::new, x -> x.time(0));
        check.refused("value(0)", INDEX, ChunkPacker::new, x -> x.value(0));
        check.refused("bit(0)", INDEX, ChunkPacker::new, x -> bit(x, 0));
        check.refused("flip(0)", INDEX, ChunkPacker::new, x -> flip(x, 0));
        check.refused("keep(1)", ARGUMENT, ChunkPacker::new, x -> x.keep(1));
        check.refused("cut(1)", ARGUMENT, ChunkPacker::new, x -> cut(x, 1));
        ChunkPacker other = threePoints();
        other.pack();
        check.due("another object's rows", Rows.state(new ChunkPacker()), "taken 0, 0 points , 0 bits ");
    }

    // Promise 2

    @Sentence(in = "Promise 2: add", says = "One more point: how many there are.")
    void promise02_howManyThereAre() {
        ChunkPacker x = new ChunkPacker();
        check.due("the first", x.add(0, Long.MIN_VALUE), 1);
        check.due("the second", x.add(1, Long.MAX_VALUE), 2);
        check.due("of the last time", x.add(LAST_TIME, 0), 3);
        check.due("state", Rows.state(x),
                "taken 0, 3 points " + Rows.told(0, Long.MIN_VALUE, 1, Long.MAX_VALUE, LAST_TIME, 0) + ", 0 bits ");
        ChunkPacker full = Rows.fullOfPoints();
        full.keep(2999);
        check.due("the 3000th", full.add(5000, -9), 3000);
        check.due("its time", full.time(2999), 5000);
        check.due("its value", full.value(2999), -9);
    }

    @Sentence(in = "Promise 2: add", says = "IllegalArgumentException: it is no time")
    void promise02_itIsNoTime() {
        long[] none = {-1, LAST_TIME + 1, Long.MIN_VALUE, Long.MAX_VALUE, 1L << 41, -LAST_TIME};
        for (long time : none) {
            check.refused("add(" + time + ", 1) to no points", ARGUMENT, ChunkPacker::new, x -> x.add(time, 1));
            check.refused("add(" + time + ", 1) to three", ARGUMENT, BoundariesTest::threePoints, x -> x.add(time, 1));
        }
        check.due("add(0, 1)", new ChunkPacker().add(0, 1), 1);
        check.due("add(1099511627775, 1)", new ChunkPacker().add(LAST_TIME, 1), 1);
    }

    @Sentence(in = "Promise 2: add", says = "or not above the latest one")
    void promise02_notAboveTheLatest() {
        check.refused("the same time", ARGUMENT, BoundariesTest::threePoints, x -> x.add(30, 1));
        check.refused("one below", ARGUMENT, BoundariesTest::threePoints, x -> x.add(29, 1));
        check.refused("time 0", ARGUMENT, BoundariesTest::threePoints, x -> x.add(0, 1));
        check.due("one above", threePoints().add(31, 1), 4);
        check.refused("time 0 again", ARGUMENT, () -> Rows.withPoints(0, 5), x -> x.add(0, 1));
        check.refused("the last time again", ARGUMENT, () -> Rows.withPoints(LAST_TIME, 5), x -> x.add(LAST_TIME, 1));
        Check.Made kept = () -> {
            ChunkPacker x = threePoints();
            x.keep(2);
            return x;
        };
        check.refused("the latest that was kept", ARGUMENT, kept, x -> x.add(20, 1));
        check.due("above the latest that was kept", kept.make().add(21, 1), 3);
        Check.Made read = () -> {
            ChunkPacker x = threePoints();
            Rows.putBits(x, TWO_POINTS);
            x.unpack(2);
            return x;
        };
        check.refused("the latest that was read", ARGUMENT, read, x -> x.add(1, 1));
        check.due("above the latest that was read", read.make().add(2, 1), 3);
    }

    @Sentence(in = "Promise 2: add", says = "IllegalStateException: there are 3000.")
    void promise02_thereAre3000() {
        check.refused("one above the latest", STATE, Rows::fullOfPoints, x -> x.add(3000, 1));
        check.refused("the last time", STATE, Rows::fullOfPoints, x -> x.add(LAST_TIME, 1));
        ChunkPacker x = Rows.fullOfPoints();
        x.keep(2999);
        check.due("to 2999 points", x.add(2999, 1), 3000);
        check.refused("to those 3000", STATE, () -> x.add(3000, 1));
        x.keep(0);
        check.due("to none of them", x.add(0, 1), 1);
    }

    // Promise 3

    @Sentence(in = "Promise 3: keep", says = "The points from number n on go: how many.")
    void promise03_pointsGo() {
        long[] all = {10, 1, 20, 2, 30, 3};
        for (int n = 0; n <= 3; n++) {
            ChunkPacker x = threePoints();
            x.pack();
            String bits = Rows.bits(x);
            check.due("keep(" + n + ") of 3", x.keep(n), 3 - n);
            check.due("the points then", Rows.points(x), Rows.told(Arrays.copyOf(all, 2 * n)));
            check.due("count(0) then", x.count(0), n);
            check.due("the bits then", Rows.bits(x), bits);
            int gone = n;
            check.refused("time of the first that went", INDEX, () -> x.time(gone));
            check.due("keep of all that are left", x.keep(n), 0);
        }
        check.due("keep(0) of none", new ChunkPacker().keep(0), 0);
        check.due("keep(3000) of 3000", Rows.fullOfPoints().keep(3000), 0);
        check.due("keep(2999) of 3000", Rows.fullOfPoints().keep(2999), 1);
        check.due("keep(0) of 3000", Rows.fullOfPoints().keep(0), 3000);
    }

    @Sentence(in = "Promise 3: keep", says = "IllegalArgumentException: n is below 0")
    void promise03_nIsBelow0() {
        int[] below = {-1, -2, -3, Integer.MIN_VALUE};
        for (int n : below) {
            check.refused("keep(" + n + ") of 3", ARGUMENT, BoundariesTest::threePoints, x -> x.keep(n));
            check.refused("keep(" + n + ") of none", ARGUMENT, ChunkPacker::new, x -> x.keep(n));
        }
        check.due("keep(0) of 3", threePoints().keep(0), 3);
    }

    @Sentence(in = "Promise 3: keep", says = "or there are not so many.")
    void promise03_notSoMany() {
        int[] above = {4, 5, 3000, 3001, Integer.MAX_VALUE};
        for (int n : above) {
            check.refused("keep(" + n + ") of 3", ARGUMENT, BoundariesTest::threePoints, x -> x.keep(n));
        }
        check.refused("keep(1) of none", ARGUMENT, ChunkPacker::new, x -> x.keep(1));
        check.refused("keep(3001) of 3000", ARGUMENT, Rows::fullOfPoints, x -> x.keep(3001));
        Check.Made kept = () -> {
            ChunkPacker x = threePoints();
            x.keep(1);
            return x;
        };
        check.refused("what went doesn't come again", ARGUMENT, kept, x -> x.keep(2));
        check.due("keep(3) of 3", threePoints().keep(3), 0);
    }

    // Promise 4

    @Sentence(in = "Promise 4: pack", says = "All points are packed")
    void promise04_allPoints() {
        ChunkPacker x = new ChunkPacker();
        check.due("none", x.pack(), 0);
        x.add(7, -7);
        check.due("one", x.pack(), 104);
        check.due("its bits", Rows.bits(x), Rows.first(7, -7));
        check.due("the point stays", Rows.points(x), Rows.told(7, -7));
        check.due("no unpack() has been", x.taken(), 0);
        ChunkPacker full = Rows.fullOfPoints();
        String bits = Rows.bits(full);
        full.cut(0);
        check.due("3000", full.pack(), 104 + 10 + 2 * 2998);
        check.due("their bits", Rows.bits(full), bits);
        check.due("the points stay", full.count(0), 3000);
    }

    @Sentence(in = "Promise 4: pack", says = "the row of bits becomes that; how many bits.")
    void promise04_rowBecomesThat() {
        ChunkPacker x = Rows.withPoints(0, 0, 1, 0);
        Rows.putBits(x, "1".repeat(1000));
        check.due("instead of more bits", x.pack(), 114);
        check.due("bits", Rows.bits(x), TWO_POINTS);
        check.refused("behind them", INDEX, () -> bit(x, 114));
        x.cut(3);
        check.due("instead of fewer bits", x.pack(), 114);
        check.due("bits again", Rows.bits(x), TWO_POINTS);
        x.put(1, 1);
        check.due("a bit put behind", Rows.bits(x), TWO_POINTS + "1");
        x.keep(0);
        check.due("no points", x.pack(), 0);
        check.due("count(1)", x.count(1), 0);
        x.put(0, 3);
        check.due("bits put into the empty row", Rows.bits(x), "000");
    }

    @Sentence(in = "Promise 4: pack", says = "IllegalStateException: they would be more than 400000.")
    void promise04_moreThan400000() {
        // No points can need so many bits: the dearest row of all has 362984, and isn't refused. Each turn
        // takes 45, each value a frame of its own of 63 bits that the one before can't hold, the last one 64.
        ChunkPacker x = new ChunkPacker();
        long[] times = new long[3000];
        long[] values = new long[3000];
        x.add(0, 0);
        for (int k = 1; k < 3000; k++) {
            times[k] = times[k - 1] + (k % 2 == 0 ? 1 : 5000);
            values[k] = values[k - 1] ^ (k == 2999 ? -1 : k % 2 == 0 ? -2 : Long.MAX_VALUE);
            x.add(times[k], values[k]);
        }
        int want = 104 + 2999 * 45 + 2998 * (13 + 63) + 13 + 64;
        check.due("the dearest row", x.pack(), want);
        check.due("count(1)", x.count(1), want);
        x.keep(0);
        check.due("it is read again", x.unpack(3000), want);
        for (int k = 0; k < 3000; k++) {
            check.due("time(" + k + ")", x.time(k), times[k]);
            check.due("value(" + k + ")", x.value(k), values[k]);
        }
    }

    // Promise 5

    @Sentence(in = "Promise 5: unpack", says = "k points are read: they become the row of points; how many bits they took.")
    void promise05_becomeTheRow() {
        String bits = TWO_POINTS + "0" + "0" + "111";
        int[] ends = {0, 104, 114, 116};
        long[] all = {0, 0, 1, 0, 2, 0};
        for (int k = 0; k <= 3; k++) {
            ChunkPacker x = threePoints();
            Rows.putBits(x, bits);
            check.due("unpack(" + k + ")", x.unpack(k), ends[k]);
            check.due("state then", Rows.state(x), "taken " + ends[k] + ", " + k + " points "
                    + Rows.told(Arrays.copyOf(all, 2 * k)) + ", 119 bits " + bits);
            int behind = k;
            check.refused("no older point behind them", INDEX, () -> x.time(behind));
        }
        check.due("unpack(0) of no bits", new ChunkPacker().unpack(0), 0);
        ChunkPacker full = Rows.fullOfPoints();
        check.due("unpack(3000)", full.unpack(3000), 104 + 10 + 2 * 2998);
        check.due("count(0) then", full.count(0), 3000);
        check.due("unpack(2999)", full.unpack(2999), 104 + 10 + 2 * 2997);
        check.due("count(0) of those", full.count(0), 2999);
    }

    @Sentence(in = "Promise 5: unpack", says = "NONE when it is wrong: then the points stay as they are.")
    void promise05_noneWhenWrong() {
        stays("the first bit isn't there", "", 1, 0);
        stays("the first point's value isn't there", "0".repeat(103), 1, 40);
        stays("the third point isn't there", TWO_POINTS, 3, 114);
        stays("the third step is 0", TWO_POINTS + "10" + "1111111" + "0", 3, 123);
        stays("the third point has no frame", TWO_POINTS + "0" + "10" + "1", 3, 117);
        stays("the third point's frame is too long", TWO_POINTS + "0" + "11" + "00001" + "111111" + "1", 3, 128);
        stays("the 3000th point isn't there", TWO_POINTS + "00".repeat(2997), 3000, 114 + 2 * 2997);
        ChunkPacker x = Rows.withPoints();
        Rows.putBits(x, TWO_POINTS);
        check.due("no points stay none", x.unpack(3), NONE);
        check.due("count(0)", x.count(0), 0);
        ChunkPacker full = Rows.fullOfPoints();
        full.cut(full.count(1) - 1);
        check.due("3000 points stay", full.unpack(3000), NONE);
        check.due("count(0) of them", full.count(0), 3000);
        check.due("the last of them", full.time(2999), 2999);
    }

    @Sentence(in = "Promise 5: unpack", says = "IllegalArgumentException: k is not 0 .. 3000.")
    void promise05_kIsNot0To3000() {
        int[] none = {-1, 3001, 3002, Integer.MIN_VALUE, Integer.MAX_VALUE};
        Check.Made made = () -> {
            ChunkPacker x = threePoints();
            Rows.putBits(x, TWO_POINTS);
            x.unpack(1);
            x.add(8, 8);
            return x;
        };
        for (int k : none) {
            check.refused("unpack(" + k + ")", ARGUMENT, made, x -> x.unpack(k));
            check.refused("unpack(" + k + ") of a new object", ARGUMENT, ChunkPacker::new, x -> x.unpack(k));
        }
        // There are bits enough for 3001 points.
        Check.Made full = () -> {
            ChunkPacker x = Rows.fullOfPoints();
            x.put(0, 64);
            return x;
        };
        check.refused("unpack(3001) where so many could be read", ARGUMENT, full, x -> x.unpack(3001));
        check.due("unpack(3000) where more could be read", full.make().unpack(3000), 104 + 10 + 2 * 2998);
        check.due("unpack(0)", made.make().unpack(0), 0);
        check.due("unpack(3000) where too few can be read", made.make().unpack(3000), NONE);
    }

    // Promise 6

    @Sentence(in = "Promise 6: taken", says = "How many bits the latest unpack() took")
    void promise06_latestUnpack() {
        ChunkPacker x = Rows.withBits(TWO_POINTS + "0" + "0");
        x.unpack(3);
        check.due("3 points", x.taken(), 116);
        x.unpack(1);
        check.due("1 point", x.taken(), 104);
        x.pack();
        x.add(5, 5);
        x.keep(0);
        x.flip(0);
        x.put(1, 1);
        x.cut(0);
        check.due("no other call changes it", x.taken(), 104);
        check.refused("unpack(3001)", ARGUMENT, () -> x.unpack(3001));
        check.due("nor does one that is refused", x.taken(), 104);
        x.unpack(0);
        check.due("no point", x.taken(), 0);
    }

    @Sentence(in = "Promise 6: taken", says = "also when it was wrong")
    void promise06_alsoWhenWrong() {
        ChunkPacker x = Rows.withBits(TWO_POINTS + "0" + "10" + "1");
        x.unpack(1);
        check.due("a right one first", x.taken(), 104);
        check.due("unpack(3)", x.unpack(3), NONE);
        check.due("up to where there is no frame", x.taken(), 117);
        x.cut(116);
        x.unpack(3);
        check.due("up to where the bits end", x.taken(), 116);
        x.cut(114);
        Rows.putBits(x, "10" + "1111111" + "0");
        x.unpack(3);
        check.due("the turn that leaves no step", x.taken(), 123);
        x.cut(114);
        Rows.putBits(x, "0" + "11" + "11111" + "100001" + "1".repeat(64));
        x.unpack(3);
        check.due("the frame that is too long", x.taken(), 128);
        ChunkPacker late = Rows.withBits(Rows.first(LAST_TIME, 0) + "10" + "0000001" + "0");
        late.unpack(2);
        check.due("the turn that leads behind the last time", late.taken(), 113);
    }

    @Sentence(in = "Promise 6: taken", says = "(those that were wanted and are not all there are not taken)")
    void promise06_notAllThere() {
        // What is wanted at once, in its order: five points with every kind of turn and of value.
        int[] parts = {
            40, 64,
            1, 1, 7, 1,
            1, 1, 1, 10, 1, 1, 5, 6, 4,
            1, 1, 1, 1, 13, 1, 1, 4,
            1, 1, 1, 1, 41, 1,
            1, 1
        };
        String bits = Rows.first(0, 0)
                + "10" + "0000001" + "0"
                + "110" + "0000000001" + "11" + "00011" + "000011" + "1001"
                + "1110" + "0000000000001" + "10" + "0110"
                + "1111" + Rows.binary(1, 41) + "0"
                + "0" + "0";
        ChunkPacker x = Rows.withBits(bits);
        check.due("all are there", x.unpack(6), bits.length());
        for (int end = bits.length() - 1; end >= 0; end--) {
            x.cut(end);
            check.due("the first " + end + ": unpack(6)", x.unpack(6), NONE);
            int want = 0;
            for (int p = 0; p < parts.length && want + parts[p] <= end; p++) {
                want += parts[p];
            }
            check.due("the first " + end + ": taken()", x.taken(), want);
        }
    }

    @Sentence(in = "Promise 6: taken", says = "0 when there was none.")
    void promise06_thereWasNone() {
        check.due("a new object", new ChunkPacker().taken(), 0);
        ChunkPacker x = threePoints();
        x.pack();
        x.flip(3);
        x.cut(100);
        x.put(7, 5);
        x.keep(1);
        check.due("other calls alone", x.taken(), 0);
        check.refused("unpack(-1)", ARGUMENT, () -> x.unpack(-1));
        check.due("one that was refused", x.taken(), 0);
    }

    // Promise 7

    @Sentence(in = "Promise 7: count", says = "How many points (what = 0) or bits (1) there are.")
    void promise07_pointsOrBits() {
        ChunkPacker x = new ChunkPacker();
        check.due("no points", x.count(0), 0);
        check.due("no bits", x.count(1), 0);
        x.add(1, 1);
        x.add(2, 2);
        x.put(1, 5);
        check.due("two points", x.count(0), 2);
        check.due("five bits", x.count(1), 5);
        check.due("3000 points", Rows.fullOfPoints().count(0), 3000);
        check.due("400000 bits", Rows.longRow(400000, "").count(1), 400000);
    }

    @Sentence(in = "Promise 7: count", says = "IllegalArgumentException: what is none of these.")
    void promise07_noneOfThese() {
        int[] none = {-1, 2, 3, 256, 257, Integer.MIN_VALUE, Integer.MAX_VALUE};
        for (int what : none) {
            check.refused("count(" + what + ")", ARGUMENT, BoundariesTest::threePoints, x -> x.count(what));
            check.refused("count(" + what + ") of a new object", ARGUMENT, ChunkPacker::new, x -> x.count(what));
        }
    }

    // Promises 8 and 9

    @Sentence(in = "Promise 8: time", says = "The time of point k. IndexOutOfBoundsException.")
    void promise08_noSuchPoint() {
        check.due("time(0)", threePoints().time(0), 10);
        check.due("time(2)", threePoints().time(2), 30);
        check.due("time(2999)", Rows.fullOfPoints().time(2999), 2999);
        noSuchPoint("time", (x, k) -> x.time(k));
    }

    @Sentence(in = "Promise 9: value", says = "The value of point k. IndexOutOfBoundsException.")
    void promise09_noSuchPoint() {
        check.due("value(0)", threePoints().value(0), 1);
        check.due("value(2)", threePoints().value(2), 3);
        ChunkPacker full = Rows.fullOfPoints();
        full.keep(2999);
        full.add(LAST_TIME, Long.MIN_VALUE);
        check.due("value(2999)", full.value(2999), Long.MIN_VALUE);
        check.due("value(2998)", full.value(2998), 0);
        noSuchPoint("value", (x, k) -> x.value(k));
    }

    // Promises 10 and 11

    @Sentence(in = "Promise 10: bit", says = "Bit i. IndexOutOfBoundsException.")
    void promise10_noSuchBit() {
        ChunkPacker x = Rows.withBits("1" + "0".repeat(62) + "1" + "1" + "0" + "1");
        boolean[] ends = {x.bit(0), !x.bit(1), !x.bit(62), x.bit(63), x.bit(64), !x.bit(65), x.bit(66)};
        for (int i = 0; i < ends.length; i++) {
            check.due("looked at, no. " + i, ends[i], true);
        }
        ChunkPacker full = Rows.longRow(400000, "10");
        check.due("bit(399998)", full.bit(399998), true);
        check.due("bit(399999)", full.bit(399999), false);
        noSuchBit("bit", (y, i) -> bit(y, i));
    }

    @Sentence(in = "Promise 11: flip", says = "Bit i becomes the other one. IndexOutOfBoundsException.")
    void promise11_noSuchBit() {
        StringBuilder want = new StringBuilder("01".repeat(65));
        ChunkPacker x = Rows.withBits(want.toString());
        for (int i : new int[] {0, 1, 62, 63, 64, 65, 127, 128, 129, 0, 129}) {
            x.flip(i);
            want.setCharAt(i, want.charAt(i) == '0' ? '1' : '0');
            check.due("flip(" + i + ")", Rows.bits(x), want.toString());
        }
        ChunkPacker full = Rows.longRow(400000, "10");
        full.flip(399999);
        check.due("bit(399999)", full.bit(399999), true);
        check.due("bit(399998)", full.bit(399998), true);
        noSuchBit("flip", (y, i) -> flip(y, i));
    }

    // Promise 12

    @Sentence(in = "Promise 12: put", says = "A number of n bits is put behind the bits: how many there are.")
    void promise12_howManyThereAre() {
        ChunkPacker x = new ChunkPacker();
        check.due("0 bits to none", x.put(0, 0), 0);
        check.due("1 bit", x.put(1, 1), 1);
        check.due("0 bits", x.put(0, 0), 1);
        check.due("63 bits", x.put(1, 63), 64);
        check.due("0 bits at the end of 64", x.put(0, 0), 64);
        check.due("64 bits", x.put(Long.MIN_VALUE, 64), 128);
        check.due("3 bits", x.put(3, 3), 131);
        check.due("64 bits more", x.put(-2, 64), 195);
        check.due("bits", Rows.bits(x), "1" + "0".repeat(62) + "1" + "1" + "0".repeat(63) + "011" + "1".repeat(63) + "0");
        check.due("the last of 400000", Rows.longRow(399999, "").put(1, 1), 400000);
        check.due("the last 64 of them", Rows.longRow(399936, "").put(1, 64), 400000);
    }

    @Sentence(in = "Promise 12: put", says = "IllegalArgumentException: n is not 0 .. 64")
    void promise12_nIsNot0To64() {
        int[] none = {-1, 65, 66, 128, -64, Integer.MIN_VALUE, Integer.MAX_VALUE};
        for (int n : none) {
            check.refused("put(0, " + n + ")", ARGUMENT, BoundariesTest::fiveBits, x -> x.put(0, n));
            check.refused("put(-1, " + n + ")", ARGUMENT, BoundariesTest::fiveBits, x -> x.put(-1, n));
            check.refused("put(1, " + n + ") to none", ARGUMENT, ChunkPacker::new, x -> x.put(1, n));
        }
        check.due("put(0, 0)", fiveBits().put(0, 0), 5);
        check.due("put(0, 64)", fiveBits().put(0, 64), 69);
    }

    @Sentence(in = "Promise 12: put", says = "or v is not a number of n bits (without a sign")
    void promise12_notANumberOfNBits() {
        for (int i = 0; i < 64; i++) {
            int n = i;
            check.refused("the first above, of " + n, ARGUMENT, BoundariesTest::fiveBits, x -> x.put(1L << n, n));
            check.refused("-1 of " + n, ARGUMENT, BoundariesTest::fiveBits, x -> x.put(-1, n));
            check.refused("the least of " + n, ARGUMENT, BoundariesTest::fiveBits, x -> x.put(Long.MIN_VALUE, n));
            ChunkPacker x = fiveBits();
            check.due("the greatest of " + n, x.put((1L << n) - 1, n), 5 + n);
            check.due("its bits", Rows.bits(x), "10110" + "1".repeat(n));
        }
        check.refused("the greatest of 63 in 62", ARGUMENT, BoundariesTest::fiveBits, x -> x.put(Long.MAX_VALUE, 62));
    }

    @Sentence(in = "Promise 12: put", says = "of 64 any)")
    void promise12_of64Any() {
        long[] any = {0, 1, -1, Long.MIN_VALUE, Long.MAX_VALUE, -2};
        for (long v : any) {
            ChunkPacker x = fiveBits();
            check.due("put(" + v + ", 64)", x.put(v, 64), 69);
            check.due("its bits", Rows.bits(x), "10110" + Rows.binary(v, 64));
            ChunkPacker y = new ChunkPacker();
            check.due("put(" + v + ", 64) to none", y.put(v, 64), 64);
            check.due("its bits alone", Rows.bits(y), Rows.binary(v, 64));
        }
    }

    @Sentence(in = "Promise 12: put", says = "IllegalStateException: they would be more than 400000.")
    void promise12_moreThan400000() {
        Check.Made full = () -> Rows.longRow(400000, "0");
        check.refused("1 bit more", STATE, full, x -> x.put(1, 1));
        check.refused("64 bits more", STATE, full, x -> x.put(-1, 64));
        check.due("0 bits more", full.make().put(0, 0), 400000);
        Check.Made almost = () -> Rows.longRow(399999, "0");
        check.refused("2 bits where 1 has room", STATE, almost, x -> x.put(3, 2));
        check.refused("64 bits where 1 has room", STATE, almost, x -> x.put(-1, 64));
        check.due("1 bit where 1 has room", almost.make().put(1, 1), 400000);
        check.refused("64 bits where 63 have room", STATE, () -> Rows.longRow(399937, "0"), x -> x.put(0, 64));
        check.due("63 bits where 63 have room", Rows.longRow(399937, "0").put(0, 63), 400000);
        ChunkPacker cut = full.make();
        cut.cut(399998);
        check.due("where bits were cut off", cut.put(2, 2), 400000);
    }

    // Promise 13

    @Sentence(in = "Promise 13: cut", says = "The row of bits has its first n alone.")
    void promise13_firstNAlone() {
        String bits = "10".repeat(65);
        for (int n : new int[] {130, 129, 128, 127, 65, 64, 63, 1, 0}) {
            ChunkPacker x = threePoints();
            Rows.putBits(x, bits);
            x.cut(n);
            check.due("cut(" + n + ")", Rows.bits(x), bits.substring(0, n));
            check.refused("the bit behind", INDEX, () -> bit(x, n));
            check.due("the points", Rows.points(x), Rows.points(threePoints()));
            x.put(0, 64);
            x.put(0, 64);
            check.due("what was cut off doesn't come again", Rows.bits(x), bits.substring(0, n) + "0".repeat(128));
        }
        ChunkPacker none = new ChunkPacker();
        none.cut(0);
        check.due("cut(0) of none", none.count(1), 0);
        ChunkPacker full = Rows.longRow(400000, "");
        full.cut(400000);
        check.due("cut(400000) of 400000", full.count(1), 400000);
    }

    @Sentence(in = "Promise 13: cut", says = "IllegalArgumentException: n is below 0")
    void promise13_nIsBelow0() {
        for (int n : new int[] {-1, -5, -64, Integer.MIN_VALUE}) {
            check.refused("cut(" + n + ") of 5", ARGUMENT, BoundariesTest::fiveBits, x -> cut(x, n));
            check.refused("cut(" + n + ") of none", ARGUMENT, ChunkPacker::new, x -> cut(x, n));
        }
        ChunkPacker x = fiveBits();
        x.cut(0);
        check.due("cut(0) of 5", x.count(1), 0);
    }

    @Sentence(in = "Promise 13: cut", says = "or there are not so many.")
    void promise13_notSoMany() {
        for (int n : new int[] {6, 7, 64, 400000, 400001, Integer.MAX_VALUE}) {
            check.refused("cut(" + n + ") of 5", ARGUMENT, BoundariesTest::fiveBits, x -> cut(x, n));
        }
        check.refused("cut(1) of none", ARGUMENT, ChunkPacker::new, x -> cut(x, 1));
        check.refused("cut(400001) of 400000", ARGUMENT, () -> Rows.longRow(400000, ""), x -> cut(x, 400001));
        Check.Made cut = () -> {
            ChunkPacker x = fiveBits();
            x.cut(3);
            return x;
        };
        check.refused("what was cut off doesn't come again", ARGUMENT, cut, x -> cut(x, 4));
        ChunkPacker x = fiveBits();
        x.cut(5);
        check.due("cut(5) of 5", Rows.bits(x), "10110");
    }

    // What several of them use

    /** A call with a number of a point or of a bit. */
    private interface Numbered {
        long answer(ChunkPacker x, int number);
    }

    private static ChunkPacker threePoints() {
        return Rows.withPoints(10, 1, 20, 2, 30, 3);
    }

    private static ChunkPacker fiveBits() {
        return Rows.withBits("10110");
    }

    private static long bit(ChunkPacker x, int i) {
        return x.bit(i) ? 1 : 0;
    }

    private static long flip(ChunkPacker x, int i) {
        x.flip(i);
        return 0;
    }

    private static long cut(ChunkPacker x, int n) {
        x.cut(n);
        return 0;
    }

    private void noSuchPoint(String name, Numbered call) {
        for (int k : new int[] {-1, 3, 4, 2999, 3000, Integer.MIN_VALUE, Integer.MAX_VALUE}) {
            check.refused(name + "(" + k + ") of 3", INDEX, BoundariesTest::threePoints, x -> call.answer(x, k));
        }
        check.refused(name + "(0) of none", INDEX, ChunkPacker::new, x -> call.answer(x, 0));
        check.refused(name + "(3000) of 3000", INDEX, Rows::fullOfPoints, x -> call.answer(x, 3000));
        Check.Made kept = () -> {
            ChunkPacker x = threePoints();
            x.keep(2);
            return x;
        };
        check.refused(name + " of a point that keep() let go", INDEX, kept, x -> call.answer(x, 2));
        Check.Made read = () -> {
            ChunkPacker x = threePoints();
            Rows.putBits(x, TWO_POINTS);
            x.unpack(2);
            return x;
        };
        check.refused(name + " of a point that unpack() let go", INDEX, read, x -> call.answer(x, 2));
    }

    private void noSuchBit(String name, Numbered call) {
        for (int i : new int[] {-1, 5, 6, 63, 64, 399999, 400000, Integer.MIN_VALUE, Integer.MAX_VALUE}) {
            check.refused(name + "(" + i + ") of 5", INDEX, BoundariesTest::fiveBits, x -> call.answer(x, i));
        }
        check.refused(name + "(0) of none", INDEX, ChunkPacker::new, x -> call.answer(x, 0));
        check.refused(name + "(64) of 64", INDEX, () -> Rows.withBits("1".repeat(64)), x -> call.answer(x, 64));
        check.refused(name + "(400000) of 400000", INDEX, () -> Rows.longRow(400000, ""), x -> call.answer(x, 400000));
        Check.Made cut = () -> {
            ChunkPacker x = fiveBits();
            x.cut(4);
            return x;
        };
        check.refused(name + " of a bit that was cut off", INDEX, cut, x -> call.answer(x, 4));
        Check.Made packed = () -> {
            ChunkPacker x = fiveBits();
            x.pack();
            return x;
        };
        check.refused(name + " of a bit that pack() let go", INDEX, packed, x -> call.answer(x, 0));
    }

    private void stays(String what, String bits, int k, int taken) {
        ChunkPacker x = threePoints();
        Rows.putBits(x, bits);
        check.due(what + ": unpack(" + k + ")", x.unpack(k), NONE);
        check.due(what + ": state then", Rows.state(x), "taken " + taken + ", 3 points "
                + Rows.told(10, 1, 20, 2, 30, 3) + ", " + bits.length() + " bits " + bits);
        check.due(what + ": a point behind the latest", x.add(31, 1), 4);
    }
}
