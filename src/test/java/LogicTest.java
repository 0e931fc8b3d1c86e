/** Promise 4: 400 to 477, the 16 ways of two bits, in their modes. */
public final class LogicTest {
    /** For each kind, what becomes of the bits of AC and M: 0 and 0, 0 and 1, 1 and 0, 1 and 1. */
    private static final String[] TABLE = {
        "0000", "0001", "0100", "0101", "0010", "0011", "0110", "0111",
        "1000", "1001", "1100", "1101", "1010", "1011", "1110", "1111",
    };

    private static final long[] VALUES = {
        0, -1, Bench.LEAST, Bench.GREATEST, Bench.word(0123456, 0701234), Bench.word(0525252, 0252525), 20, -21,
    };

    public static void main(String[] args) {
        for (int kind = 0; kind < 16; kind++) {
            int op = 0400 + 4 * kind;
            for (long x : VALUES) {
                for (long m : VALUES) {
                    modes(op, TABLE[kind], x, m);
                }
            }
            Bench b = new Bench(Integer.toOctalString(op) + " far away").put(3, 6);
            b.faults(op, 3, 4096).faults(op + 2, 3, 4096).faults(op + 3, 3, 4096).has(3, 6);
            b.does(op + 1, 3, 0654321).has(3, combined(TABLE[kind], 6, 0654321));
        }
        Bench.finish();
    }

    private static long combined(String row, long x, long m) {
        long v = 0;
        for (int bit = 0; bit < 36; bit++) {
            int at = (int) (x >> bit & 1) * 2 + (int) (m >> bit & 1);
            v |= (long) (row.charAt(at) - '0') << bit;
        }
        return Bench.word(v >> 18, v);
    }

    private static void modes(int op, String row, long x, long m) {
        long want = combined(row, x, m);
        set(op, x, m).does(op, 3, 20).next().overflow(0).has(3, want).has(20, m);
        set(op, x, m).does(op + 1, 3, 20).next().has(3, combined(row, x, 20)).has(20, m);
        set(op, x, m).does(op + 2, 3, 20).next().has(3, x).has(20, want);
        set(op, x, m).does(op + 3, 3, 20).next().has(3, want).has(20, want);
        set(op, x, m).does(op + 3, 0, 20).has(0, want).has(20, want);
    }

    private static Bench set(int op, long x, long m) {
        String name = Integer.toOctalString(op) + " of " + x + " and " + m;
        return new Bench(name).put(0, x).put(3, x).put(20, m);
    }
}
