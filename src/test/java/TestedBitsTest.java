/** Promise 4: 600 to 677, bits that are tested, told here by their names as the PDP-10 has them. */
public final class TestedBitsTest {
    private static final String CHANGES = "NZCO";
    private static final String SKIPS = " EAN";

    private static final long[] VALUES = {
        0, -1, Bench.LEAST, Bench.GREATEST, 20, Bench.word(20, 0), Bench.word(0123456, 0654321),
        Bench.word(0654321, 0123456), Bench.word(0, 0777777), Bench.word(0777777, 0),
    };

    public static void main(String[] args) {
        for (int op = 0600; op < 0700; op++) {
            for (long x : VALUES) {
                for (long m : VALUES) {
                    test(op, x, m);
                }
            }
            farAway(op);
        }
        new Bench("TDZ of itself").put(3, 5).does(0630, 3, 3).has(3, 0).next();
        new Bench("TDCN of itself").put(3, 5).does(0656, 3, 3).has(3, 0).skipped(true);
        new Bench("TSO of itself").put(3, Bench.word(1, 2)).does(0671, 3, 3).has(3, Bench.word(3, 3));
        Bench.finish();
    }

    private static String name(int op) {
        char mask = "RLDS".charAt((op >> 3 & 1) * 2 + (op & 1));
        return "T" + mask + CHANGES.charAt(op >> 4 & 3) + SKIPS.charAt(op >> 1 & 3);
    }

    private static long mask(char kind, int e, long m) {
        switch (kind) {
            case 'R':
                return Bench.word(0, e);
            case 'L':
                return Bench.word(e, 0);
            case 'D':
                return m;
            default:
                return Bench.word(m, m >> 18);
        }
    }

    private static long changed(char kind, long x, long mask) {
        switch (kind) {
            case 'Z':
                return x & ~mask;
            case 'C':
                return x ^ mask;
            case 'O':
                return x | mask;
            default:
                return x;
        }
    }

    private static boolean skips(char kind, long x, long mask) {
        return kind == 'A' || kind == 'E' && (x & mask) == 0 || kind == 'N' && (x & mask) != 0;
    }

    private static void test(int op, long x, long m) {
        String name = name(op);
        long mask = mask(name.charAt(1), 20, m);
        new Bench(name + " of " + x + " and " + m).put(3, x).put(20, m).does(op, 3, 20)
                .skipped(skips(name.charAt(3), x, mask)).overflow(0)
                .has(3, changed(name.charAt(2), x, mask)).has(20, m);
    }

    private static void farAway(int op) {
        String name = name(op);
        Bench b = new Bench(name + " far away").put(3, 6);
        if (name.charAt(1) == 'D' || name.charAt(1) == 'S') {
            b.faults(op, 3, 4096).has(3, 6);
            return;
        }
        long mask = mask(name.charAt(1), 0654321, 0);
        b.does(op, 3, 0654321).skipped(skips(name.charAt(3), 6, mask)).has(3, changed(name.charAt(2), 6, mask));
    }
}
