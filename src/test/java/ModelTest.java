/** Long mixed runs of calls: the program must answer as the slow one does, call by call. */
public final class ModelTest {
    private static final int RUNS = 1500;
    private static final int CALLS = 512;
    private static final long[] EDGE_STEPS = {
        1, 2, 63, 64, 65, 66, 127, 128, 129, 511, 512, 513, 514, 1024, 4095, 4096, 4097, 4098, 8192, 8193,
        1L << 30, 1L << 38, (1L << 40) - 1
    };

    private final Check check = new Check();
    /** Fixed at the start, so that every run of the test is the same. */
    private long seed = 20261115L;
    private ChunkPacker fast;
    private SlowPacker slow;

    public static void main(String[] args) {
        ModelTest test = new ModelTest();
        for (int run = 0; run < RUNS; run++) {
            test.run(run);
        }
        test.check.end();
    }

    private void run(int run) {
        fast = new ChunkPacker();
        slow = new SlowPacker();
        for (int call = 0; call < CALLS; call++) {
            call("run " + run + ", call " + call + ": ", run % 3);
        }
        // Not calls of the run: they tell whether all that is held is the same.
        compareRows("run " + run + ", at its end: ");
    }

    private void call(String where, int kind) {
        int dice = below(100);
        if (dice < (kind == 0 ? 50 : 15)) {
            add(where);
        } else if (dice < 55) {
            if (kind == 2 && slow.count(1) > 104) {
                putPoint(where);
            } else {
                put(where, wildNumber(), below(70) - 2);
            }
        } else if (dice < 60) {
            same(where + "pack()", () -> fast.pack(), () -> slow.pack());
        } else if (dice < 70) {
            int k = chance(10) ? below(3005) - 2 : slow.count(0) + below(7) - 3;
            same(where + "unpack(" + k + ")", () -> fast.unpack(k), () -> slow.unpack(k));
            same(where + "taken()", () -> fast.taken(), () -> slow.taken());
        } else if (dice < 73) {
            int n = slow.count(0) - below(6) + 1;
            same(where + "keep(" + n + ")", () -> fast.keep(n), () -> slow.keep(n));
        } else if (dice < 78) {
            int n = slow.count(1) - below(80) + 2;
            same(where + "cut(" + n + ")", () -> { fast.cut(n); return 0; }, () -> { slow.cut(n); return 0; });
        } else if (dice < 84) {
            int i = index(slow.count(1));
            same(where + "flip(" + i + ")", () -> { fast.flip(i); return 0; }, () -> { slow.flip(i); return 0; });
        } else {
            look(where);
        }
    }

    private void look(String where) {
        int what = below(5) - 1;
        same(where + "count(" + what + ")", () -> fast.count(what), () -> slow.count(what));
        int k = index(slow.count(0));
        same(where + "time(" + k + ")", () -> fast.time(k), () -> slow.time(k));
        same(where + "value(" + k + ")", () -> fast.value(k), () -> slow.value(k));
        int i = index(slow.count(1));
        same(where + "bit(" + i + ")", () -> fast.bit(i) ? 1 : 0, () -> slow.bit(i) ? 1 : 0);
    }

    private void add(String where) {
        int size = slow.count(0);
        long latest = size == 0 ? below(1000) : slow.time(size - 1);
        long step = size > 1 && chance(30) ? latest - slow.time(size - 2)
                : chance(3) ? -below(3)
                : chance(40) ? 1 + below(200) : EDGE_STEPS[below(EDGE_STEPS.length - (chance(5) ? 0 : 3))];
        long time = latest + step;
        long before = size == 0 ? 0 : slow.value(size - 1);
        long value = chance(20) ? before : before ^ difference();
        same(where + "add(" + time + ", " + value + ")", () -> fast.add(time, value), () -> slow.add(time, value));
    }

    /** One point's bits behind the others, mostly right ones. */
    private void putPoint(String where) {
        int kind = below(5);
        int[] sizes = {0, 7, 10, 13, 41};
        if (kind == 0) {
            put(where, 0, 1);
        } else {
            put(where, kind == 4 ? 15 : (1L << kind + 1) - 2, kind == 4 ? 4 : kind + 1);
            put(where, chance(80) ? below(60) : wildNumber() >>> 64 - sizes[kind], sizes[kind]);
        }
        if (chance(30)) {
            put(where, 0, 1);
        } else if (chance(40)) {
            put(where, 2, 2);
            put(where, wildNumber() >>> 1, 63);
        } else {
            int lead = below(32);
            int width = 1 + below(chance(90) ? 64 - lead : 64);
            put(where, 3, 2);
            put(where, lead, 5);
            put(where, width - 1, 6);
            put(where, wildNumber() >>> 64 - width, width);
        }
    }

    private void put(String where, long v, int n) {
        // Half of the wild numbers are made to fit, else hardly any would.
        long w = n > 0 && n < 64 && chance(50) ? v >>> 64 - n : v;
        long u = n < 64 && w >>> Math.max(n, 0) != 0 && chance(50) ? v : w;
        same(where + "put(" + u + ", " + n + ")", () -> fast.put(u, n), () -> slow.put(u, n));
    }

    private void compareRows(String where) {
        same(where + "count(0)", () -> fast.count(0), () -> slow.count(0));
        same(where + "count(1)", () -> fast.count(1), () -> slow.count(1));
        for (int k = 0; k < slow.count(0); k++) {
            int at = k;
            same(where + "time(" + k + ")", () -> fast.time(at), () -> slow.time(at));
            same(where + "value(" + k + ")", () -> fast.value(at), () -> slow.value(at));
        }
        for (int i = 0; i < slow.count(1); i++) {
            int at = i;
            same(where + "bit(" + i + ")", () -> fast.bit(at) ? 1 : 0, () -> slow.bit(at) ? 1 : 0);
        }
    }

    private void same(String what, Check.Call program, Check.Call model) {
        String got = told(program);
        String want = told(model);
        if (!got.equals(want)) {
            check.fault(what + " answered " + got + ", due is " + want);
        }
    }

    private static String told(Check.Call call) {
        try {
            return Long.toString(call.answer());
        } catch (RuntimeException e) {
            return "throws." + e.getClass().getSimpleName();
        }
    }

    private int index(int size) {
        return chance(5) ? -1 - below(3) : chance(5) ? size + below(3) : below(size + 1);
    }

    private long difference() {
        long wide = wildNumber();
        int width = 1 + below(64);
        int shift = below(65 - width);
        return chance(60) ? wide >>> 64 - width << shift : 1L << below(64);
    }

    private long wildNumber() {
        return (long) below(1 << 16) << 48 ^ (long) below(1 << 24) << 24 ^ below(1 << 24);
    }

    private boolean chance(int percent) {
        return below(100) < percent;
    }

    private int below(int bound) {
        seed = seed * 6364136223846793005L + 1442695040888963407L;
        return (int) ((seed >>> 33) % bound);
    }
}
