/** Promise 4: 500 to 577, the moves of halves, told here by their names as the PDP-10 has them. */
public final class HalvesTest {
    private static final String[] NAMES = {
        "HLL", "HRL", "HLLZ", "HRLZ", "HLLO", "HRLO", "HLLE", "HRLE",
        "HRR", "HLR", "HRRZ", "HLRZ", "HRRO", "HLRO", "HRRE", "HLRE",
    };

    private static final long[] VALUES = {
        Bench.word(0123456, 0654321), Bench.word(0765432, 0234567), 0, -1, Bench.LEAST, Bench.GREATEST,
        Bench.word(0, 0400000), Bench.word(0377777, 0777777),
    };

    public static void main(String[] args) {
        for (int kind = 0; kind < 16; kind++) {
            int op = 0500 + 4 * kind;
            for (long x : VALUES) {
                for (long m : VALUES) {
                    modes(op, NAMES[kind], x, m);
                }
            }
            Bench b = new Bench(NAMES[kind] + " far away").put(3, 6);
            b.faults(op, 3, 4096).faults(op + 2, 3, 4096).faults(op + 3, 3, 4096).has(3, 6);
            b.does(op + 1, 3, 0654321).has(3, made(NAMES[kind], 0654321, 6));
        }
        Bench.finish();
    }

    private static String octal(long v) {
        String digits = Long.toOctalString(v & (1L << 36) - 1);
        return "0".repeat(12 - digits.length()) + digits;
    }

    private static String half(String word, char side) {
        return side == 'L' ? word.substring(0, 6) : word.substring(6);
    }

    private static long made(String name, long from, long to) {
        char goesTo = name.charAt(2);
        String moved = half(octal(from), name.charAt(1));
        String other = half(octal(to), goesTo == 'L' ? 'R' : 'L');
        char way = name.length() == 3 ? ' ' : name.charAt(3);
        boolean ones = way == 'O' || way == 'E' && moved.charAt(0) >= '4';
        if (way != ' ') {
            other = ones ? "777777" : "000000";
        }
        int movedHalf = Integer.parseInt(moved, 8);
        int otherHalf = Integer.parseInt(other, 8);
        return goesTo == 'L' ? Bench.word(movedHalf, otherHalf) : Bench.word(otherHalf, movedHalf);
    }

    private static void modes(int op, String name, long x, long m) {
        set(name, x, m).does(op, 3, 20).next().overflow(0).has(3, made(name, m, x)).has(20, m);
        set(name, x, m).does(op + 1, 3, 20).next().has(3, made(name, 20, x)).has(20, m);
        set(name, x, m).does(op + 2, 3, 20).next().has(3, x).has(20, made(name, x, m));
        long self = made(name, m, m);
        set(name, x, m).does(op + 3, 3, 20).next().has(3, self).has(20, self);
        set(name, x, m).does(op + 3, 0, 20).next().has(0, x).has(20, self);
        set(name, x, m).does(op, 0, 20).next().has(0, made(name, m, x));
    }

    private static Bench set(String name, long x, long m) {
        return new Bench(name + " of " + x + " and " + m).put(0, x).put(3, x).put(20, m);
    }
}
