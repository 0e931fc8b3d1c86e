/**
 * "A word that is not there (E 4096 or above, where it is needed ...)": for each OP, whether E is
 * needed. The rows tell the OPS whose E is a number or a place to go to; all others that are no
 * STOPS take or write the word at E.
 */
public final class NeededWordsTest {
    private static final int[] NOT_WITHIN = {0240, 0243, 0252, 0255, 0260, 0260, 0263, 0263, 0265, 0265};

    public static void main(String[] args) {
        for (int op = 0; op <= 0777; op++) {
            Bench b = new Bench("E of " + Integer.toOctalString(op)).put(3, Bench.word(4000, 4000));
            ends(b, op, 4095, isStop(op) ? 1 : 0);
            for (int e : new int[] {4096, 4097, 0400000, 0777777}) {
                ends(b, op, e, isStop(op) ? 1 : isNeeded(op) ? 2 : 0);
            }
        }
        Bench.finish();
    }

    private static void ends(Bench b, int op, int e, int want) {
        // An instruction for XCT to find; and a pointer, in case that the last OP changed it.
        b.put(4095, Bench.instruction(0340, 5, 0)).put(3, Bench.word(4000, 4000));
        b.put(Bench.PLACE, Bench.instruction(op, 3, e)).go(Bench.PLACE, 1, true, want).count(want == 2 ? 0 : 1);
        if (want == 2) {
            b.pc(Bench.PLACE).has(3, Bench.word(4000, 4000));
        }
    }

    private static boolean isStop(int op) {
        int family = op & 0774;
        return op < 0200 || op >= 0700 || family == 0224 || family == 0234 || family == 0244
                || op == 0257 || op == 0266 || op == 0267;
    }

    private static boolean isNeeded(int op) {
        if (op >= 0300 && op < 0400 || op >= 0600) {
            return (op & 010) != 0;
        }
        for (int k = 0; k < NOT_WITHIN.length; k += 2) {
            if (op >= NOT_WITHIN[k] && op <= NOT_WITHIN[k + 1]) {
                return false;
            }
        }
        boolean hasModes = op >= 0400 || op < 0240 || op >= 0270;
        return !hasModes || (op & 3) != 1;
    }
}
