import java.math.BigInteger;

/** Promise 4: IMUL, IDIV, ADD and SUB. */
public final class ArithmeticTest {
    private static final int IMUL = 0220;
    private static final int IDIV = 0230;
    private static final int ADD = 0270;
    private static final int SUB = 0274;
    private static final BigInteger ALL = BigInteger.ONE.shiftLeft(36);

    private static final long[] VALUES = {
        0, 1, -1, 2, -2, 7, -7, 100, -100, 262143, 262144, -262144, 185363, 185364, -185364,
        (1L << 34), -(1L << 34), (1L << 34) - 1, Bench.GREATEST, Bench.GREATEST - 1, Bench.LEAST, Bench.LEAST + 1,
    };

    public static void main(String[] args) {
        for (long x : VALUES) {
            for (long y : VALUES) {
                for (int family : new int[] {IMUL, ADD, SUB}) {
                    calculation(family, x, y);
                }
                division(x, y);
            }
        }
        needTheirWord();
        quotientAndRest();
        Bench.finish();
    }

    private static BigInteger exact(int family, long x, long y) {
        BigInteger a = BigInteger.valueOf(x);
        BigInteger b = BigInteger.valueOf(y);
        return family == IMUL ? a.multiply(b) : family == ADD ? a.add(b) : a.subtract(b);
    }

    private static long kept(BigInteger v) {
        long bits = v.mod(ALL).longValue();
        return bits > Bench.GREATEST ? bits - (1L << 36) : bits;
    }

    private static int overflow(BigInteger v) {
        return v.equals(BigInteger.valueOf(kept(v))) ? 0 : 1;
    }

    private static Bench set(int op, long x, long y) {
        return new Bench(Integer.toOctalString(op) + " of " + x + " and " + y).put(3, x).put(4, 44).put(20, y);
    }

    private static void calculation(int family, long x, long y) {
        BigInteger v = exact(family, x, y);
        long want = kept(v);
        set(family, x, y).does(family, 3, 20).next().overflow(overflow(v)).has(3, want).has(4, 44).has(20, y);
        set(family, x, y).does(family + 2, 3, 20).overflow(overflow(v)).has(3, x).has(20, want);
        set(family, x, y).does(family + 3, 3, 20).overflow(overflow(v)).has(3, want).has(20, want).has(4, 44);
        BigInteger immediate = exact(family, x, 20);
        set(family, x, y).does(family + 1, 3, 20).overflow(overflow(immediate)).has(3, kept(immediate)).has(20, y);
        new Bench("A is 0").put(0, x).put(20, y).does(family + 3, 0, 20).has(0, want).has(20, want);
    }

    private static void division(long x, long y) {
        if (y == 0 || y == -1 && x == Bench.LEAST) {
            for (int mode : new int[] {0, 2, 3}) {
                set(IDIV, x, y).does(IDIV + mode, 3, 20).next().overflow(1).has(3, x).has(4, 44).has(20, y);
            }
            return;
        }
        long quotient = BigInteger.valueOf(x).divide(BigInteger.valueOf(y)).longValue();
        long rest = BigInteger.valueOf(x).remainder(BigInteger.valueOf(y)).longValue();
        set(IDIV, x, y).does(IDIV, 3, 20).next().overflow(0).has(3, quotient).has(4, rest).has(20, y);
        set(IDIV, x, y).does(IDIV + 1, 3, 20).overflow(0).has(3, x / 20).has(4, x % 20).has(20, y);
        set(IDIV, x, y).does(IDIV + 2, 3, 20).overflow(0).has(3, x).has(4, 44).has(20, quotient);
        set(IDIV, x, y).does(IDIV + 3, 3, 20).overflow(0).has(3, quotient).has(4, rest).has(20, quotient);
    }

    private static void needTheirWord() {
        for (int family : new int[] {IMUL, IDIV, ADD, SUB}) {
            Bench b = new Bench(Integer.toOctalString(family) + " far away").put(3, 900000);
            b.faults(family, 3, 4096).faults(family + 2, 3, 4096).faults(family + 3, 3, 4096).has(3, 900000).has(4, 0);
        }
        new Bench("ADDI").put(3, 1).does(ADD + 1, 3, 262143).has(3, 262144);
        new Bench("SUBI").put(3, 1).does(SUB + 1, 3, 262143).has(3, -262142);
        new Bench("IMULI").put(3, -2).does(IMUL + 1, 3, 262143).has(3, -524286);
        new Bench("IDIVI").put(3, 900000).does(IDIV + 1, 3, 262143).has(3, 3).has(4, 113571);
        new Bench("IDIVI by 0").put(3, 9).put(4, 8).does(IDIV + 1, 3, 0).overflow(1).has(3, 9).has(4, 8);
    }

    private static void quotientAndRest() {
        new Bench("IDIV of AC 15").put(15, 17).put(20, 5).does(IDIV, 15, 20).has(15, 3).has(0, 2);
        new Bench("IDIVB into AC + 1").put(3, 17).put(4, 5).does(IDIV + 3, 3, 4).has(3, 3).has(4, 2);
        new Bench("IDIVB into AC").put(3, 17).does(IDIV + 3, 3, 3).has(3, 1).has(4, 0);
        new Bench("IDIV by AC + 1").put(3, 17).put(4, 5).does(IDIV, 3, 4).has(3, 3).has(4, 2);
        new Bench("IDIVM into AC").put(3, 17).put(4, 9).does(IDIV + 2, 3, 3).has(3, 1).has(4, 9);
        new Bench("IDIVB of AC 0").put(0, 17).put(20, 5).does(IDIV + 3, 0, 20).has(0, 3).has(1, 2).has(20, 3);
        new Bench("overflow stays").put(3, 1).put(20, 0).does(IDIV, 3, 20).overflow(1).put(20, 1)
                .doesNext(ADD, 3, 20).overflow(1).has(3, 2)
                .doesNext(IMUL, 3, 20).overflow(1).has(3, 2);
    }
}
