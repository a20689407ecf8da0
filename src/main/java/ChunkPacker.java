/**
 * Packs points in time into few bits, and reads them again: times by how their
 * steps turn, values by the bits in which each one differs from the one before.
 */
public final class ChunkPacker {
    public static final int NONE = -1;

    private static final int MAX_POINTS = 3000;
    private static final int MAX_BITS = 400000;
    private static final long MAX_TIME = 1099511627775L;

    private static final int WORD_BITS = 64;
    private static final int TIME_BITS = 40;
    private static final int VALUE_BITS = 64;
    private static final int LEAD_BITS = 5;
    private static final int WIDTH_BITS = 6;
    private static final int MAX_LEAD = 31;

    /** How many bits a turn has behind its kind; the kind is how many 1s tell it. */
    private static final int[] TURN_BITS = {0, 7, 10, 13, 41};
    private static final int LONGEST_KIND = 4;

    private static final int POINTS = 0;
    private static final int BITS = 1;

    // Each row has a spare one: what is packed or read goes there first, so
    // that a call that throws or reads something wrong leaves the rows alone.
    private PointRow points;
    private PointRow sparePoints;
    private BitRow bits;
    private BitRow spareBits;
    private int latestTaken;

    public ChunkPacker() {
        points = new PointRow();
        sparePoints = new PointRow();
        bits = new BitRow();
        spareBits = new BitRow();
        latestTaken = 0;
    }

    public int add(long time, long value) throws IllegalArgumentException, IllegalStateException {
        if (time < 0 || time > MAX_TIME) {
            throw new IllegalArgumentException("no time");
        }
        if (time <= points.latestTime()) {
            throw new IllegalArgumentException("the time is not above the latest one");
        }
        if (!points.append(time, value)) {
            throw new IllegalStateException("there are 3000 points");
        }
        return points.size();
    }

    public int keep(int n) throws IllegalArgumentException {
        int before = points.size();
        if (n < 0 || n > before) {
            throw new IllegalArgumentException("there are not so many points");
        }
        points.shorten(n);
        return before - n;
    }

    public int pack() throws IllegalStateException {
        spareBits.shorten(0);
        if (!new Writer(spareBits).writeAll(points)) {
            throw new IllegalStateException("more than 400000 bits");
        }
        BitRow old = bits;
        bits = spareBits;
        spareBits = old;
        return bits.size();
    }

    public int unpack(int k) throws IllegalArgumentException {
        if (k < 0 || k > MAX_POINTS) {
            throw new IllegalArgumentException("k is not 0 .. 3000");
        }
        sparePoints.shorten(0);
        Reader reader = new Reader(bits);
        boolean right = reader.readAll(k, sparePoints);
        latestTaken = reader.position();
        if (!right) {
            return NONE;
        }
        PointRow old = points;
        points = sparePoints;
        sparePoints = old;
        return latestTaken;
    }

    public int taken() {
        return latestTaken;
    }

    public int count(int what) throws IllegalArgumentException {
        if (what == POINTS) {
            return points.size();
        }
        if (what == BITS) {
            return bits.size();
        }
        throw new IllegalArgumentException("neither points nor bits");
    }

    public long time(int k) throws IndexOutOfBoundsException {
        return points.timeAt(k);
    }

    public long value(int k) throws IndexOutOfBoundsException {
        return points.valueAt(k);
    }

    public boolean bit(int i) throws IndexOutOfBoundsException {
        return bits.isOne(i);
    }

    public void flip(int i) throws IndexOutOfBoundsException {
        bits.invert(i);
    }

    public int put(long v, int n) throws IllegalArgumentException, IllegalStateException {
        if (n < 0 || n > WORD_BITS) {
            throw new IllegalArgumentException("n is not 0 .. 64");
        }
        // A shift by 64 would be one by 0.
        if (n < WORD_BITS && v >>> n != 0) {
            throw new IllegalArgumentException("v is not a number of n bits");
        }
        if (!bits.append(v, n)) {
            throw new IllegalStateException("more than 400000 bits");
        }
        return bits.size();
    }

    public void cut(int n) throws IllegalArgumentException {
        if (n < 0 || n > bits.size()) {
            throw new IllegalArgumentException("there are not so many bits");
        }
        bits.shorten(n);
    }

    /** The points, by number. */
    private static final class PointRow {
        private final long[] times;
        private final long[] values;
        private int size;

        PointRow() {
            times = new long[MAX_POINTS];
            values = new long[MAX_POINTS];
            size = 0;
        }

        int size() {
            return size;
        }

        /** Below every time when there is no point, so that any may follow. */
        long latestTime() {
            return size == 0 ? -1 : times[size - 1];
        }

        long timeAt(int k) {
            if (k < 0 || k >= size) {
                throw new IndexOutOfBoundsException("no such point");
            }
            return times[k];
        }

        long valueAt(int k) {
            if (k < 0 || k >= size) {
                throw new IndexOutOfBoundsException("no such point");
            }
            return values[k];
        }

        /** False, and nothing is done, when there is no room. */
        boolean append(long time, long value) {
            if (size >= MAX_POINTS) {
                return false;
            }
            times[size] = time;
            values[size] = value;
            size++;
            return true;
        }

        /** The new size is 0 .. size. */
        void shorten(int newSize) {
            size = newSize;
        }
    }

    /** The bits, 64 in a word, the first one highest. What stands behind the last one is left over. */
    private static final class BitRow {
        private final long[] words;
        private int size;

        BitRow() {
            words = new long[MAX_BITS / WORD_BITS];
            size = 0;
        }

        int size() {
            return size;
        }

        boolean isOne(int i) {
            if (i < 0 || i >= size) {
                throw new IndexOutOfBoundsException("no such bit");
            }
            return numberAt(i, 1) == 1;
        }

        void invert(int i) {
            if (i < 0 || i >= size) {
                throw new IndexOutOfBoundsException("no such bit");
            }
            words[i / WORD_BITS] ^= 1L << (WORD_BITS - 1 - i % WORD_BITS);
        }

        boolean has(int from, int n) {
            return from >= 0 && from <= size && n <= size - from;
        }

        /** The number of n bits, 1 .. 64, from bit 'from' on; has(from, n) must hold. */
        long numberAt(int from, int n) {
            int word = from / WORD_BITS;
            int skipped = from % WORD_BITS;
            long number = words[word] << skipped;
            if (skipped + n > WORD_BITS) {
                number |= words[word + 1] >>> (WORD_BITS - skipped);
            }
            return number >>> (WORD_BITS - n);
        }

        /** Puts v, a number of n bits, 0 .. 64, at the end. False, and nothing is done, when there is no room. */
        boolean append(long v, int n) {
            if (n > MAX_BITS - size) {
                return false;
            }
            if (n == 0) {
                return true;
            }
            int word = size / WORD_BITS;
            int used = size % WORD_BITS;
            int room = WORD_BITS - used;
            // Bits that were cut off may still stand in the last word.
            long head = used == 0 ? 0 : words[word] >>> room << room;
            if (n <= room) {
                words[word] = head | v << (room - n);
            } else {
                int rest = n - room;
                words[word] = head | v >>> rest;
                words[word + 1] = v << (WORD_BITS - rest);
            }
            size += n;
            return true;
        }

        /** The new size is 0 .. size. */
        void shorten(int newSize) {
            size = newSize;
        }
    }

    /** The part of 64 bits that a difference is written in: 'width' bits behind the 'lead' highest ones. */
    private static final class Frame {
        private int lead;
        /** 0 while there is no frame. */
        private int width;

        Frame() {
            lead = 0;
            width = 0;
        }

        boolean isThere() {
            return width > 0;
        }

        int width() {
            return width;
        }

        int below() {
            return WORD_BITS - lead - width;
        }

        boolean holds(int zerosAbove, int zerosBelow) {
            return isThere() && zerosAbove >= lead && zerosBelow >= below();
        }

        void become(int newLead, int newWidth) {
            lead = newLead;
            width = newWidth;
        }
    }

    /** Writes points behind the bits of a row. Each method answers false when there is no room. */
    private static final class Writer {
        private final BitRow row;
        private final Frame frame;
        private long lastTime;
        private long lastStep;
        private long lastValue;

        Writer(BitRow row) {
            this.row = row;
            frame = new Frame();
            lastTime = 0;
            lastStep = 0;
            lastValue = 0;
        }

        boolean writeAll(PointRow points) {
            int size = points.size();
            for (int k = 0; k < size; k++) {
                long time = points.timeAt(k);
                long value = points.valueAt(k);
                boolean written = k == 0 ? writeFirst(time, value) : writeNext(time, value);
                if (!written) {
                    return false;
                }
                lastTime = time;
                lastValue = value;
            }
            return true;
        }

        private boolean writeFirst(long time, long value) {
            return row.append(time, TIME_BITS) && row.append(value, VALUE_BITS);
        }

        private boolean writeNext(long time, long value) {
            long step = time - lastTime;
            long turn = step - lastStep;
            lastStep = step;
            return writeTurn(turn) && writeDifference(value ^ lastValue);
        }

        private boolean writeTurn(long turn) {
            int kind = kindOf(turn);
            int n = TURN_BITS[kind];
            return writeKind(kind) && row.append(turn & (1L << n) - 1, n);
        }

        private static int kindOf(long turn) {
            if (turn == 0) {
                return 0;
            }
            for (int kind = 1; kind < LONGEST_KIND; kind++) {
                long half = 1L << (TURN_BITS[kind] - 1);
                if (turn >= -half && turn < half) {
                    return kind;
                }
            }
            return LONGEST_KIND;
        }

        /** As many 1s as the kind says, and a 0 unless no kind has more 1s. */
        private boolean writeKind(int kind) {
            long ones = (1L << kind) - 1;
            return kind == LONGEST_KIND ? row.append(ones, kind) : row.append(ones << 1, kind + 1);
        }

        private boolean writeDifference(long x) {
            if (x == 0) {
                return row.append(0, 1);
            }
            int above = Math.min(Long.numberOfLeadingZeros(x), MAX_LEAD);
            int below = Long.numberOfTrailingZeros(x);
            boolean told = frame.holds(above, below)
                    ? row.append(0b10, 2)
                    : writeFrame(above, WORD_BITS - above - below);
            return told && row.append(x >>> frame.below(), frame.width());
        }

        private boolean writeFrame(int lead, int width) {
            frame.become(lead, width);
            return row.append(0b11, 2) && row.append(lead, LEAD_BITS) && row.append(width - 1, WIDTH_BITS);
        }
    }

    /** Reads points from the first bit of a row on. Each method answers false where it goes wrong. */
    private static final class Reader {
        private final BitRow row;
        private final Frame frame;
        private int position;
        /** What the latest take() read. */
        private long number;
        private long time;
        private long step;
        private long value;

        Reader(BitRow row) {
            this.row = row;
            frame = new Frame();
            position = 0;
            number = 0;
            time = 0;
            step = 0;
            value = 0;
        }

        /** How many bits have been taken. */
        int position() {
            return position;
        }

        boolean readAll(int count, PointRow points) {
            for (int k = 0; k < count; k++) {
                boolean read = k == 0 ? readFirst() : readNext();
                if (!read || !points.append(time, value)) {
                    return false;
                }
            }
            return true;
        }

        /** Reads a number of n bits, 1 .. 64; takes none of them unless all are there. */
        private boolean take(int n) {
            if (!row.has(position, n)) {
                return false;
            }
            number = row.numberAt(position, n);
            position += n;
            return true;
        }

        private boolean readFirst() {
            if (!take(TIME_BITS)) {
                return false;
            }
            time = number;
            if (!take(VALUE_BITS)) {
                return false;
            }
            value = number;
            return true;
        }

        private boolean readNext() {
            return readTurn() && readDifference();
        }

        private boolean readTurn() {
            int kind = readKind();
            if (kind == NONE) {
                return false;
            }
            if (kind > 0) {
                int n = TURN_BITS[kind];
                if (!take(n)) {
                    return false;
                }
                step += withSign(number, n);
            }
            time += step;
            return step >= 1 && time <= MAX_TIME;
        }

        /** How many 1s tell the kind of turn, NONE when the bits end in them. */
        private int readKind() {
            for (int ones = 0; ones < LONGEST_KIND; ones++) {
                if (!take(1)) {
                    return NONE;
                }
                if (number == 0) {
                    return ones;
                }
            }
            return LONGEST_KIND;
        }

        private static long withSign(long number, int n) {
            int unused = WORD_BITS - n;
            return number << unused >> unused;
        }

        private boolean readDifference() {
            if (!take(1)) {
                return false;
            }
            if (number == 0) {
                return true;
            }
            if (!take(1)) {
                return false;
            }
            boolean framed = number == 0 ? frame.isThere() : readFrame();
            if (!framed || !take(frame.width())) {
                return false;
            }
            value ^= number << frame.below();
            return true;
        }

        private boolean readFrame() {
            if (!take(LEAD_BITS)) {
                return false;
            }
            int lead = (int) number;
            if (!take(WIDTH_BITS)) {
                return false;
            }
            int width = (int) number + 1;
            if (lead + width > WORD_BITS) {
                return false;
            }
            frame.become(lead, width);
            return true;
        }
    }
}
