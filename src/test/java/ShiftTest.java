import java.math.BigInteger;

/** Promise 4: ASH, ROT, LSH and JFFO. */
public final class ShiftTest {
    private static final int ASH = 0240;
    private static final int ROT = 0241;
    private static final int LSH = 0242;
    private static final int JFFO = 0243;

    private static final long[] VALUES = {
        0, 1, -1, 2, -2, 5, -5, -7, Bench.LEAST, Bench.LEAST + 1, Bench.GREATEST, 1L << 34, -(1L << 34),
        Bench.word(0123456, 0654321), Bench.word(0765432, 0234567), Bench.word(0377777, 0), Bench.word(0600000, 0),
    };

    public static void main(String[] args) {
        for (long v : VALUES) {
            for (int n = -80; n <= 80; n++) {
                shifts(v, n, n);
            }
            for (int n : new int[] {-255, -254, 255, 254, 108, -108}) {
                shifts(v, n, n);
                shifts(v, n < 0 ? n - 256 : n + 256, n);
            }
            shifts(v, 256, 0);
            shifts(v, -256, 0);
            shifts(v, 257, 1);
            shifts(v, -257, -1);
            shifts(v, 131071, 255);
            shifts(v, -131072, 0);
            shifts(v, -131071, -255);
            firstOne(v);
        }
        firstOnes();
        Bench.finish();
    }

    private static void shifts(long v, int n, int taken) {
        int e = n & 0777777;
        one(ASH, v, n).does(ASH, 3, e).next().overflow(ashOverflow(v, taken)).has(3, ash(v, taken)).has(4, 44);
        one(ROT, v, n).does(ROT, 3, e).next().overflow(0).has(3, rot(v, taken)).has(4, 44);
        one(LSH, v, n).does(LSH, 3, e).next().overflow(0).has(3, lsh(v, taken)).has(4, 44);
    }

    private static Bench one(int op, long v, int n) {
        return new Bench(Integer.toOctalString(op) + " of " + v + " by " + n).put(3, v).put(4, 44);
    }

    private static long ash(long v, int n) {
        if (n < 0) {
            return BigInteger.valueOf(v).shiftRight(-n).longValue();
        }
        long low = BigInteger.valueOf(v).shiftLeft(n).mod(BigInteger.ONE.shiftLeft(35)).longValue();
        return v < 0 ? low - (1L << 35) : low;
    }

    private static int ashOverflow(long v, int n) {
        return n > 0 && BigInteger.valueOf(v).shiftLeft(n).bitLength() > 35 ? 1 : 0;
    }

    private static String bits(long v) {
        String digits = Long.toBinaryString(v & (1L << 36) - 1);
        return "0".repeat(36 - digits.length()) + digits;
    }

    private static long ofBits(String bits) {
        long v = Long.parseLong(bits, 2);
        return Bench.word(v >> 18, v);
    }

    private static long rot(long v, int n) {
        String bits = bits(v);
        for (int k = 0; k < Math.abs(n); k++) {
            bits = n > 0 ? bits.substring(1) + bits.charAt(0) : bits.charAt(35) + bits.substring(0, 35);
        }
        return ofBits(bits);
    }

    private static long lsh(long v, int n) {
        String bits = bits(v);
        for (int k = 0; k < Math.abs(n); k++) {
            bits = n > 0 ? bits.substring(1) + "0" : "0" + bits.substring(0, 35);
        }
        return ofBits(bits);
    }

    private static void firstOne(long v) {
        int zeros = v == 0 ? 0 : bits(v).indexOf('1');
        new Bench("JFFO of " + v).put(3, v).put(4, 44).does(JFFO, 3, 300).pc(v == 0 ? Bench.PLACE + 1 : 300)
                .overflow(0).has(3, v).has(4, zeros);
    }

    private static void firstOnes() {
        for (int bit = 0; bit < 36; bit++) {
            firstOne(Bench.word(1L << bit >> 18, 1L << bit));
        }
        new Bench("JFFO of AC 15").put(15, 1).does(JFFO, 15, 5000).pc(5000).has(0, 35);
        new Bench("JFFO of AC 15, none").put(0, 9).does(JFFO, 15, 5000).next().has(0, 0);
    }
}
