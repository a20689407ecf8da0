import java.util.ArrayList;
import java.util.List;

/** The document once more, in its plainest form: texts of 0s and 1s. It shares no code with the program. */
final class SlowPacker {
    /** Thrown where reading goes wrong. */
    private static final class Wrong extends Exception {
        private static final long serialVersionUID = 1L;
    }

    private static final long LAST_TIME = (1L << 40) - 1;

    private List<long[]> points = new ArrayList<>();
    private String bits = "";
    private int taken = 0;

    private int position;

    int add(long time, long value) {
        if (time < 0 || time > LAST_TIME) {
            throw new IllegalArgumentException();
        }
        if (!points.isEmpty() && time <= points.get(points.size() - 1)[0]) {
            throw new IllegalArgumentException();
        }
        if (points.size() == 3000) {
            throw new IllegalStateException();
        }
        points.add(new long[] {time, value});
        return points.size();
    }

    int keep(int n) {
        if (n < 0 || n > points.size()) {
            throw new IllegalArgumentException();
        }
        int gone = 0;
        while (points.size() > n) {
            points.remove(points.size() - 1);
            gone++;
        }
        return gone;
    }

    int pack() {
        StringBuilder out = new StringBuilder();
        int[] frame = null;
        for (int k = 0; k < points.size(); k++) {
            long[] point = points.get(k);
            if (k == 0) {
                out.append(text(point[0], 40)).append(text(point[1], 64));
                continue;
            }
            long step = point[0] - points.get(k - 1)[0];
            long stepBefore = k == 1 ? 0 : points.get(k - 1)[0] - points.get(k - 2)[0];
            out.append(turnText(step - stepBefore));
            frame = packValue(out, text(point[1] ^ points.get(k - 1)[1], 64), frame);
        }
        if (out.length() > 400000) {
            throw new IllegalStateException();
        }
        bits = out.toString();
        return bits.length();
    }

    private static String turnText(long turn) {
        if (turn == 0) {
            return "0";
        } else if (turn >= -64 && turn <= 63) {
            return "10" + text(turn, 7);
        } else if (turn >= -512 && turn <= 511) {
            return "110" + text(turn, 10);
        } else if (turn >= -4096 && turn <= 4095) {
            return "1110" + text(turn, 13);
        }
        return "1111" + text(turn, 41);
    }

    /** The frame that there is behind it. */
    private static int[] packValue(StringBuilder out, String x, int[] frame) {
        if (x.indexOf('1') < 0) {
            out.append("0");
            return frame;
        }
        int a = Math.min(31, x.indexOf('1'));
        int b = 63 - x.lastIndexOf('1');
        if (frame != null && a >= frame[0] && b >= 64 - frame[0] - frame[1]) {
            out.append("10").append(x, frame[0], frame[0] + frame[1]);
            return frame;
        }
        int n = 64 - a - b;
        out.append("11").append(text(a, 5)).append(text(n - 1, 6)).append(x, a, a + n);
        return new int[] {a, n};
    }

    /** The n lowest bits of v, the highest one first. */
    private static String text(long v, int n) {
        StringBuilder out = new StringBuilder();
        for (int i = n - 1; i >= 0; i--) {
            out.append((v >> i & 1) == 1 ? '1' : '0');
        }
        return out.toString();
    }

    int unpack(int k) {
        if (k < 0 || k > 3000) {
            throw new IllegalArgumentException();
        }
        position = 0;
        int answer;
        try {
            points = read(k);
            answer = position;
        } catch (Wrong e) {
            answer = -1;
        }
        taken = position;
        return answer;
    }

    private List<long[]> read(int k) throws Wrong {
        List<long[]> out = new ArrayList<>();
        long time = 0;
        long step = 0;
        String value = "";
        int[] frame = null;
        for (int i = 0; i < k; i++) {
            if (i == 0) {
                time = Long.parseLong(next(40), 2);
                value = next(64);
            } else {
                step += readTurn();
                time += step;
                if (step < 1 || time > LAST_TIME) {
                    throw new Wrong();
                }
                if (next(1).equals("1")) {
                    if (next(1).equals("1")) {
                        int a = Integer.parseInt(next(5), 2);
                        int n = Integer.parseInt(next(6), 2) + 1;
                        frame = new int[] {a, n};
                        if (a + n > 64) {
                            throw new Wrong();
                        }
                    }
                    if (frame == null) {
                        throw new Wrong();
                    }
                    value = changed(value, next(frame[1]), frame[0]);
                }
            }
            out.add(new long[] {time, Long.parseUnsignedLong(value, 2)});
        }
        return out;
    }

    private long readTurn() throws Wrong {
        if (next(1).equals("0")) {
            return 0;
        }
        int n = next(1).equals("0") ? 7 : next(1).equals("0") ? 10 : next(1).equals("0") ? 13 : 41;
        long turn = Long.parseLong(next(n), 2);
        return turn >= 1L << (n - 1) ? turn - (1L << n) : turn;
    }

    private static String changed(String value, String x, int from) {
        StringBuilder out = new StringBuilder(value);
        for (int i = 0; i < x.length(); i++) {
            if (x.charAt(i) == '1') {
                out.setCharAt(from + i, value.charAt(from + i) == '1' ? '0' : '1');
            }
        }
        return out.toString();
    }

    private String next(int n) throws Wrong {
        if (position + n > bits.length()) {
            throw new Wrong();
        }
        String out = bits.substring(position, position + n);
        position += n;
        return out;
    }

    int taken() {
        return taken;
    }

    int count(int what) {
        if (what != 0 && what != 1) {
            throw new IllegalArgumentException();
        }
        return what == 0 ? points.size() : bits.length();
    }

    long time(int k) {
        return point(k)[0];
    }

    long value(int k) {
        return point(k)[1];
    }

    private long[] point(int k) {
        if (k < 0 || k >= points.size()) {
            throw new IndexOutOfBoundsException();
        }
        return points.get(k);
    }

    boolean bit(int i) {
        if (i < 0 || i >= bits.length()) {
            throw new IndexOutOfBoundsException();
        }
        return bits.charAt(i) == '1';
    }

    void flip(int i) {
        String other = bit(i) ? "0" : "1";
        bits = bits.substring(0, i) + other + bits.substring(i + 1);
    }

    int put(long v, int n) {
        if (n < 0 || n > 64) {
            throw new IllegalArgumentException();
        }
        if (n < 64 && (v < 0 || Long.toBinaryString(v).length() > n && v != 0)) {
            throw new IllegalArgumentException();
        }
        if (bits.length() + n > 400000) {
            throw new IllegalStateException();
        }
        bits = bits + text(v, n);
        return bits.length();
    }

    void cut(int n) {
        if (n < 0 || n > bits.length()) {
            throw new IllegalArgumentException();
        }
        bits = bits.substring(0, n);
    }
}
