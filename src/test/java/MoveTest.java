/** Promises 4 and 6: MOVE, MOVS, MOVN and MOVM in their modes. */
public final class MoveTest {
    private static final int MOVE = 0200;
    private static final int MOVS = 0204;
    private static final int MOVN = 0210;
    private static final int MOVM = 0214;

    public static void main(String[] args) {
        for (int family : new int[] {MOVE, MOVS, MOVN, MOVM}) {
            modes(family, Bench.word(0123456, 0654321), Bench.word(0700001, 0000002));
            modes(family, -5, 7);
            modes(family, 0, Bench.LEAST);
            modes(family, Bench.LEAST, Bench.GREATEST);
            modes(family, Bench.GREATEST, -1);
            needsItsWord(family);
        }
        ofTheSameWord();
        Bench.finish();
    }

    private static long moved(int family, long v) {
        switch (family) {
            case MOVS:
                return Bench.word(v, v >> 18);
            case MOVN:
                return v == Bench.LEAST ? v : -v;
            case MOVM:
                return v == Bench.LEAST ? v : Math.abs(v);
            default:
                return v;
        }
    }

    private static int overflow(int family, long v) {
        return family >= MOVN && v == Bench.LEAST ? 1 : 0;
    }

    private static Bench set(int family, long ac, long c) {
        String name = "move " + Integer.toOctalString(family) + " of " + ac + " and " + c;
        return new Bench(name).put(0, ac).put(3, ac).put(20, c);
    }

    private static void modes(int family, long ac, long c) {
        long ofWord = moved(family, c);
        long ofAc = moved(family, ac);
        set(family, ac, c).does(family, 3, 20).next().overflow(overflow(family, c)).has(3, ofWord).has(20, c);
        set(family, ac, c).does(family + 1, 3, 20).next().overflow(0).has(3, moved(family, 20)).has(20, c);
        set(family, ac, c).does(family + 2, 3, 20).next().overflow(overflow(family, ac)).has(20, ofAc).has(3, ac);
        set(family, ac, c).does(family + 3, 3, 20).next().overflow(overflow(family, c)).has(20, ofWord).has(3, ofWord);
        set(family, ac, c).does(family + 3, 0, 20).overflow(overflow(family, c)).has(20, ofWord).has(0, ac);
        set(family, ac, c).does(family, 0, 20).has(0, ofWord).has(20, c);
        set(family, ac, c).does(family + 2, 0, 20).has(20, ofAc).has(0, ac);
    }

    private static void needsItsWord(int family) {
        Bench b = new Bench("move " + Integer.toOctalString(family) + " far away").put(3, 9);
        b.faults(family, 3, 4096).faults(family + 2, 3, 4096).faults(family + 3, 3, 262143).has(3, 9).overflow(0);
        b.does(family + 1, 3, 262143).has(3, moved(family, 262143));
        b.put(3, 9).does(family + 2, 3, 4095).has(4095, moved(family, 9));
    }

    private static void ofTheSameWord() {
        new Bench("MOVN of itself").put(3, 5).does(MOVN, 3, 3).has(3, -5).does(MOVN + 3, 3, 3).has(3, 5)
                .does(MOVN + 2, 3, 3).has(3, -5);
        new Bench("overflow is kept").put(20, Bench.LEAST).does(MOVN, 3, 20).overflow(1).put(20, 1)
                .doesNext(MOVN, 3, 20).overflow(1).has(3, -1);
        new Bench("MOVSI").does(MOVS + 1, 3, 0400000).has(3, Bench.LEAST);
    }
}
