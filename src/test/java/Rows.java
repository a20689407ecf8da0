/** Objects with rows of points and of bits, and those rows as texts. */
final class Rows {
    static final long LAST_TIME = 1099511627775L;

    private Rows() {
    }

    /** Times and values, in turn. */
    static ChunkPacker withPoints(long... timesAndValues) {
        ChunkPacker x = new ChunkPacker();
        for (int i = 0; i < timesAndValues.length; i += 2) {
            x.add(timesAndValues[i], timesAndValues[i + 1]);
        }
        return x;
    }

    static ChunkPacker withBits(String bits) {
        ChunkPacker x = new ChunkPacker();
        putBits(x, bits);
        return x;
    }

    /** Few calls: 64 bits in each. */
    static void putBits(ChunkPacker x, String bits) {
        for (int from = 0; from < bits.length(); from += 64) {
            String part = bits.substring(from, Math.min(from + 64, bits.length()));
            x.put(Long.parseUnsignedLong(part, 2), part.length());
        }
    }

    /** 3000 points, each with its number as its time and with value 0, and their bits; made by few calls. */
    static ChunkPacker fullOfPoints() {
        ChunkPacker x = withBits(first(0, 0) + "10" + "0000001" + "0" + "00".repeat(2998));
        x.unpack(3000);
        return x;
    }

    /** 1s all, but for the last bits: these. More calls than the document promises anything for. */
    static ChunkPacker longRow(int size, String last) {
        ChunkPacker x = new ChunkPacker();
        putBits(x, "1".repeat(size - last.length()) + last);
        return x;
    }

    static String first(long time, long value) {
        return binary(time, 40) + binary(value, 64);
    }

    /** The n lowest bits of v. */
    static String binary(long v, int n) {
        String digits = "0".repeat(64) + Long.toBinaryString(v);
        return digits.substring(digits.length() - n);
    }

    static String bits(ChunkPacker x) {
        StringBuilder out = new StringBuilder();
        for (int i = 0; i < x.count(1); i++) {
            out.append(x.bit(i) ? '1' : '0');
        }
        return out.toString();
    }

    static String points(ChunkPacker x) {
        StringBuilder out = new StringBuilder();
        for (int k = 0; k < x.count(0); k++) {
            out.append(told(x.time(k), x.value(k)));
        }
        return out.toString();
    }

    /** The text that points() gives for these times and values. */
    static String told(long... timesAndValues) {
        StringBuilder out = new StringBuilder();
        for (int i = 0; i < timesAndValues.length; i += 2) {
            out.append('[').append(timesAndValues[i]).append(' ').append(timesAndValues[i + 1]).append(']');
        }
        return out.toString();
    }

    /** All that can be seen of an object without changing it. */
    static String state(ChunkPacker x) {
        return "taken " + x.taken() + ", " + x.count(0) + " points " + points(x) + ", " + x.count(1) + " bits " + bits(x);
    }

    /** What an object answers to calls that change it: they tell what can't be seen. */
    static String deeds(ChunkPacker x) {
        StringBuilder out = new StringBuilder();
        long latest = x.count(0) == 0 ? -1 : x.time(x.count(0) - 1);
        int points = x.count(0);
        tell(out, () -> x.unpack(points));
        tell(out, () -> x.put(2, 2));
        tell(out, () -> x.add(latest, 7));
        tell(out, () -> x.add(latest + 1, 7));
        out.append(state(x));
        tell(out, () -> x.pack());
        out.append(state(x));
        tell(out, () -> x.unpack(x.count(0)));
        tell(out, () -> x.keep(x.count(0) / 2));
        out.append(state(x));
        return out.toString();
    }

    private static void tell(StringBuilder out, Check.Call call) {
        try {
            out.append(call.answer());
        } catch (RuntimeException e) {
            out.append(e.getClass().getSimpleName());
        }
        out.append(", ");
    }
}
