/** Promise 4: 300 to 377, comparisons with and without counting. */
public final class CompareTest {
    private static final int CAI = 0300;
    private static final int CAM = 0310;
    private static final int JUMP = 0320;
    private static final int SKIP = 0330;
    private static final int AOJ = 0340;
    private static final int AOS = 0350;
    private static final int SOJ = 0360;
    private static final int SOS = 0370;

    private static final long[] VALUES = {
        0, 1, -1, 2, -2, 19, 20, 21, -20, Bench.GREATEST, Bench.GREATEST - 1, Bench.LEAST, Bench.LEAST + 1,
    };

    public static void main(String[] args) {
        for (int condition = 0; condition < 8; condition++) {
            for (long x : VALUES) {
                for (long m : VALUES) {
                    compares(condition, x, m);
                    skips(condition, x, m);
                }
                countsAc(condition, x);
            }
            needTheirWord(condition);
        }
        Bench.finish();
    }

    private static boolean holds(int condition, long x, long y) {
        switch (condition) {
            case 0:
                return false;
            case 1:
                return x < y;
            case 2:
                return x == y;
            case 3:
                return x <= y;
            case 4:
                return true;
            case 5:
                return x >= y;
            case 6:
                return x != y;
            default:
                return x > y;
        }
    }

    private static Bench set(int op, long x, long m) {
        return new Bench(Integer.toOctalString(op) + " of " + x + " and " + m).put(0, x).put(3, x).put(20, m);
    }

    private static void compares(int c, long x, long m) {
        set(CAI + c, x, m).does(CAI + c, 3, 20).skipped(holds(c, x, 20)).overflow(0).has(3, x).has(20, m);
        set(CAM + c, x, m).does(CAM + c, 3, 20).skipped(holds(c, x, m)).overflow(0).has(3, x).has(20, m);
        set(JUMP + c, x, m).does(JUMP + c, 3, 20).pc(holds(c, x, 0) ? 20 : Bench.PLACE + 1).overflow(0)
                .has(3, x).has(20, m);
    }

    private static void skips(int c, long x, long m) {
        set(SKIP + c, x, m).does(SKIP + c, 3, 20).skipped(holds(c, m, 0)).overflow(0).has(3, m).has(20, m);
        set(SKIP + c, x, m).does(SKIP + c, 0, 20).skipped(holds(c, m, 0)).has(0, x).has(20, m);
        long more = m == Bench.GREATEST ? Bench.LEAST : m + 1;
        int up = m == Bench.GREATEST ? 1 : 0;
        set(AOS + c, x, m).does(AOS + c, 3, 20).skipped(holds(c, more, 0)).overflow(up).has(3, more).has(20, more);
        set(AOS + c, x, m).does(AOS + c, 0, 20).skipped(holds(c, more, 0)).overflow(up).has(0, x).has(20, more);
        long less = m == Bench.LEAST ? Bench.GREATEST : m - 1;
        int down = m == Bench.LEAST ? 1 : 0;
        set(SOS + c, x, m).does(SOS + c, 3, 20).skipped(holds(c, less, 0)).overflow(down).has(3, less).has(20, less);
        set(SOS + c, x, m).does(SOS + c, 0, 20).skipped(holds(c, less, 0)).overflow(down).has(0, x).has(20, less);
    }

    private static void countsAc(int c, long x) {
        long more = x == Bench.GREATEST ? Bench.LEAST : x + 1;
        set(AOJ + c, x, 6).does(AOJ + c, 3, 300).pc(holds(c, more, 0) ? 300 : Bench.PLACE + 1)
                .overflow(x == Bench.GREATEST ? 1 : 0).has(3, more);
        long less = x == Bench.LEAST ? Bench.GREATEST : x - 1;
        set(SOJ + c, x, 6).does(SOJ + c, 0, 300).pc(holds(c, less, 0) ? 300 : Bench.PLACE + 1)
                .overflow(x == Bench.LEAST ? 1 : 0).has(0, less);
    }

    private static void needTheirWord(int c) {
        for (int family : new int[] {CAM, SKIP, AOS, SOS}) {
            new Bench(Integer.toOctalString(family + c) + " far away").put(3, 6).faults(family + c, 3, 4096).has(3, 6);
        }
        new Bench("CAI far away").put(3, 262143).does(CAI + c, 3, 262143).skipped(holds(c, 0, 0)).has(3, 262143);
        new Bench("JUMP far away").put(3, -6).does(JUMP + c, 3, 4096).pc(holds(c, -6, 0) ? 4096 : Bench.PLACE + 1);
        new Bench("AOJ far away").put(3, -6).does(AOJ + c, 3, 4096).pc(holds(c, -5, 0) ? 4096 : Bench.PLACE + 1);
        new Bench("AOS of its AC").put(3, 6).does(AOS + c, 3, 3).has(3, 7);
        new Bench("SKIP of its AC").put(3, 6).does(SKIP + c, 3, 3).has(3, 6);
    }
}
