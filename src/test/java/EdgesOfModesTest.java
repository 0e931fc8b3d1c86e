/** Boundary cases of the modes: where E is needed, where A is 0, and which word is written when. */
public final class EdgesOfModesTest {
    private static final int[] MOVES = {0200, 0204, 0210, 0214};
    private static final int[] SUMS = {0220, 0270, 0274};
    private static final int IDIV = 0230;

    public static void main(String[] args) {
        neededWhetherItCountsOrNot();
        immediateNeedsNoWord();
        lastWord();
        selfWithAcZero();
        halvesOfSelfWithAcZero();
        bothWithAcZero();
        moveToMemory();
        sameWord();
        Bench.finish();
    }

    private static boolean hasModes(int op) {
        int family = op & 0774;
        return family >= 0400 && family < 0600 || family >= 0200 && family <= 0220 || family == IDIV
                || family == 0270 || family == 0274;
    }

    /** "(In modes 0, 2, 3 E is needed, whether C(E) counts or not.)" */
    private static void neededWhetherItCountsOrNot() {
        for (int op = 0200; op < 0600; op++) {
            if (hasModes(op) && (op & 3) != 1) {
                new Bench("E 4096 for " + Integer.toOctalString(op)).put(3, 900).put(4, 44).faults(op, 3, 4096)
                        .overflow(0).has(3, 900).has(4, 44).faults(op, 3, 0777777).has(3, 900);
            }
        }
    }

    /** "1: AC, and of 0,E in place of C(E)": E may be any 18 bits then. */
    private static void immediateNeedsNoWord() {
        for (int op = 0201; op < 0600; op += 4) {
            if (hasModes(op)) {
                new Bench("E 4096 for " + Integer.toOctalString(op)).put(3, 900).does(op, 3, 4096).next().count(1)
                        .does(op, 3, 0777777).next().count(1);
            }
        }
    }

    /** "4096 of them": the last one is there in every mode. */
    private static void lastWord() {
        for (int op = 0200; op < 0600; op++) {
            if (hasModes(op)) {
                new Bench("E 4095 for " + Integer.toOctalString(op)).put(3, 900).put(4095, 7).does(op, 3, 4095).next();
            }
        }
    }

    /** "mode 3 of these: E gets it, and AC, if A is not 0" (MOVE to MOVM) */
    private static void selfWithAcZero() {
        for (int family : MOVES) {
            new Bench("A 0, mode 3 of " + Integer.toOctalString(family)).put(0, 44).put(20, 0)
                    .does(family + 3, 0, 20).has(0, 44).has(20, 0);
            new Bench("A 1, mode 3 of " + Integer.toOctalString(family)).put(1, 44).put(20, 0)
                    .does(family + 3, 1, 20).has(1, 0).has(20, 0);
        }
        new Bench("A 0 and E 0").put(0, 5).does(0213, 0, 0).has(0, -5);
        new Bench("A 0 in mode 0").put(0, 5).put(20, 6).does(0200, 0, 20).has(0, 6);
        new Bench("A 0 in mode 1").put(0, 5).does(0201, 0, 20).has(0, 20);
        new Bench("A 0 in mode 2").put(0, 5).does(0202, 0, 20).has(20, 5);
    }

    /** "3 from C(E) to itself, and to AC, if A is not 0" (halves) */
    private static void halvesOfSelfWithAcZero() {
        for (int op = 0503; op < 0600; op += 4) {
            new Bench("A 0 for " + Integer.toOctalString(op)).put(0, 44).put(20, 0).does(op, 0, 20).has(0, 44);
            new Bench("A 15 for " + Integer.toOctalString(op)).put(15, 44).put(20, 0).does(op, 15, 20)
                    .has(15, (op & 030) != 020 ? 0 : (op & 040) == 0 ? 0777777 : Bench.word(0777777, 0));
        }
    }

    /** "mode 3 of these: E and AC get the result": AC 0, too (IMUL, ADD, SUB, IDIV, 400 to 477). */
    private static void bothWithAcZero() {
        long[] wants = {12, 8, 4};
        for (int k = 0; k < 3; k++) {
            new Bench("A 0, mode 3 of " + Integer.toOctalString(SUMS[k])).put(0, 6).put(20, 2)
                    .does(SUMS[k] + 3, 0, 20).has(0, wants[k]).has(20, wants[k]);
        }
        new Bench("A 0, mode 3 of IDIV").put(0, 7).put(1, 44).put(20, 2).does(IDIV + 3, 0, 20)
                .has(0, 3).has(20, 3).has(1, 1);
        new Bench("A 0, mode 3 of 0").put(0, 6).put(20, 2).does(0403, 0, 20).has(0, 0).has(20, 0);
        new Bench("A 0, mode 3 of all ones").put(0, 6).put(20, 2).does(0477, 0, 20).has(0, -1).has(20, -1);
    }

    /** Promise 6: "In mode 2 MOVE, MOVS, MOVN and MOVM take AC in place of C(E), and E gets what becomes of it." */
    private static void moveToMemory() {
        long[] wants = {-5, Bench.word(-5, -1), 5, 5};
        for (int k = 0; k < 4; k++) {
            new Bench("mode 2 of " + Integer.toOctalString(MOVES[k])).put(3, -5).put(20, 7).does(MOVES[k] + 2, 3, 20)
                    .has(3, -5).has(20, wants[k]).overflow(0);
        }
        new Bench("C(E) does not count").put(3, -5).put(20, Bench.LEAST).does(0212, 3, 20).has(20, 5).overflow(0);
        new Bench("AC counts").put(3, Bench.LEAST).put(20, 5).does(0212, 3, 20).has(20, Bench.LEAST).overflow(1)
                .has(3, Bench.LEAST);
        new Bench("AC counts for MOVM").put(3, Bench.LEAST).does(0216, 3, 20).has(20, Bench.LEAST).overflow(1);
        new Bench("mode 2 to itself").put(3, -5).does(0212, 3, 3).has(3, 5);
    }

    /** AC and E may be one word, in every mode. */
    private static void sameWord() {
        for (int mode = 0; mode < 4; mode++) {
            if (mode != 1) {
                new Bench("ADD to itself").put(3, 7).does(0270 + mode, 3, 3).has(3, 14);
                new Bench("SUB from itself").put(3, 7).does(0274 + mode, 3, 3).has(3, 0);
                new Bench("but one of itself").put(3, 7).does(0430 + mode, 3, 3).has(3, 0);
                new Bench("halves of itself").put(3, Bench.word(1, 2)).does(0504 + mode, 3, 3).has(3, Bench.word(2, 2));
            }
        }
    }
}
