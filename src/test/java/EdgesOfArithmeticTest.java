/** Boundary cases of MOVN, MOVM, IMUL, IDIV, ADD and SUB, and of OVERFLOW. */
public final class EdgesOfArithmeticTest {
    private static final int MOVS = 0204;
    private static final int MOVN = 0210;
    private static final int MOVM = 0214;
    private static final int IMUL = 0220;
    private static final int IDIV = 0230;
    private static final int ADD = 0270;
    private static final int SUB = 0274;

    public static void main(String[] args) {
        halvesExchanged();
        zeroLessTheLeast();
        leastWithoutSign();
        sumsBeyond();
        differencesBeyond();
        productsBeyond();
        overflowStays();
        cutToZero();
        wordBehindTheLastAc();
        quotientAlone();
        orderOfTheThree();
        dividedByZero();
        leastByLessOne();
        Bench.finish();
    }

    /** "204 MOVS: halves exchanged": the sign comes from the right half, and OVERFLOW is none of its. */
    private static void halvesExchanged() {
        new Bench("MOVS to the sign").put(20, 0400000).does(MOVS, 3, 20).has(3, Bench.LEAST).overflow(0);
        new Bench("MOVS from the sign").put(20, Bench.LEAST).does(MOVS, 3, 20).has(3, 0400000).overflow(0);
        new Bench("MOVS of ones").put(20, -1).does(MOVS, 3, 20).has(3, -1);
    }

    /** "210 MOVN: 0 less it ... modulo 2^36; OVERFLOW becomes 1 if one was beyond" */
    private static void zeroLessTheLeast() {
        new Bench("MOVN of 0").put(3, 6).put(20, 0).does(MOVN, 3, 20).has(3, 0).overflow(0);
        new Bench("MOVN of the least").put(20, Bench.LEAST).does(MOVN, 3, 20).has(3, Bench.LEAST).overflow(1);
        new Bench("MOVN of one more").put(20, Bench.LEAST + 1).does(MOVN, 3, 20).has(3, Bench.GREATEST).overflow(0);
        new Bench("MOVN of the greatest").put(20, Bench.GREATEST).does(MOVN, 3, 20).has(3, Bench.LEAST + 1).overflow(0);
        new Bench("MOVNS of the least").put(20, Bench.LEAST).does(MOVN + 3, 3, 20).has(3, Bench.LEAST)
                .has(20, Bench.LEAST).overflow(1).next().count(1);
        new Bench("MOVNI of the greatest E").does(MOVN + 1, 3, 0777777).has(3, -262143).overflow(0);
    }

    /** "214 MOVM: without sign ... modulo 2^36; OVERFLOW becomes 1 if one was beyond" */
    private static void leastWithoutSign() {
        new Bench("MOVM of the least").put(20, Bench.LEAST).does(MOVM, 3, 20).has(3, Bench.LEAST).overflow(1);
        new Bench("MOVM of one more").put(20, Bench.LEAST + 1).does(MOVM, 3, 20).has(3, Bench.GREATEST).overflow(0);
        new Bench("MOVM of -1").put(20, -1).does(MOVM, 3, 20).has(3, 1).overflow(0);
        new Bench("MOVM of 0").put(3, 6).put(20, 0).does(MOVM, 3, 20).has(3, 0).overflow(0);
        new Bench("MOVM of the greatest").put(20, Bench.GREATEST).does(MOVM, 3, 20).has(3, Bench.GREATEST).overflow(0);
    }

    private static void result(int op, long x, long y, long want, int overflow) {
        String name = Integer.toOctalString(op) + " of " + x + " and " + y;
        new Bench(name).put(3, x).put(20, y).does(op, 3, 20).next().has(3, want).overflow(overflow);
        new Bench(name).put(3, x).put(20, y).does(op + 2, 3, 20).has(3, x).has(20, want).overflow(overflow);
        new Bench(name).put(3, x).put(20, y).does(op + 3, 3, 20).has(3, want).has(20, want).overflow(overflow);
    }

    /** "270 ADD ... Results are taken modulo 2^36; OVERFLOW becomes 1 if one was beyond" */
    private static void sumsBeyond() {
        result(ADD, Bench.GREATEST - 1, 1, Bench.GREATEST, 0);
        result(ADD, Bench.GREATEST, 1, Bench.LEAST, 1);
        result(ADD, Bench.GREATEST, Bench.GREATEST, -2, 1);
        result(ADD, Bench.LEAST + 1, -1, Bench.LEAST, 0);
        result(ADD, Bench.LEAST, -1, Bench.GREATEST, 1);
        result(ADD, Bench.LEAST, Bench.LEAST, 0, 1);
        result(ADD, Bench.GREATEST, Bench.LEAST, -1, 0);
        new Bench("ADDI beyond").put(3, Bench.GREATEST).does(ADD + 1, 3, 0777777).has(3, Bench.LEAST + 262142).overflow(1);
    }

    /** "274 SUB: AC less it ... modulo 2^36; OVERFLOW becomes 1 if one was beyond" */
    private static void differencesBeyond() {
        result(SUB, Bench.LEAST + 1, 1, Bench.LEAST, 0);
        result(SUB, Bench.LEAST, 1, Bench.GREATEST, 1);
        result(SUB, Bench.GREATEST, -1, Bench.LEAST, 1);
        result(SUB, 0, Bench.LEAST, Bench.LEAST, 1);
        result(SUB, -1, Bench.LEAST, Bench.GREATEST, 0);
        result(SUB, Bench.LEAST, Bench.LEAST, 0, 0);
        result(SUB, Bench.LEAST, Bench.GREATEST, 1, 1);
        new Bench("SUBI beyond").put(3, Bench.LEAST).does(SUB + 1, 3, 1).has(3, Bench.GREATEST).overflow(1);
    }

    /** "220 IMUL: AC times it ... modulo 2^36; OVERFLOW becomes 1 if one was beyond" */
    private static void productsBeyond() {
        result(IMUL, 1L << 17, 1L << 18, Bench.LEAST, 1);
        result(IMUL, -(1L << 17), 1L << 18, Bench.LEAST, 0);
        result(IMUL, 1L << 17, -(1L << 18), Bench.LEAST, 0);
        result(IMUL, -(1L << 17), -(1L << 18), Bench.LEAST, 1);
        result(IMUL, 1L << 18, 1L << 18, 0, 1);
        result(IMUL, Bench.LEAST, -1, Bench.LEAST, 1);
        result(IMUL, -1, Bench.LEAST, Bench.LEAST, 1);
        result(IMUL, Bench.LEAST, 1, Bench.LEAST, 0);
        result(IMUL, Bench.LEAST, 0, 0, 0);
        result(IMUL, 0, Bench.LEAST, 0, 0);
        result(IMUL, Bench.GREATEST, -1, Bench.LEAST + 1, 0);
        result(IMUL, Bench.GREATEST, Bench.GREATEST, 1, 1);
        result(IMUL, Bench.LEAST, Bench.LEAST, 0, 1);
        result(IMUL, Bench.LEAST, Bench.GREATEST, Bench.LEAST, 1);
        // These two products are 0 and 2^34 even in 64 bits that wrap, and yet beyond.
        result(IMUL, 1L << 32, 1L << 32, 0, 1);
        result(IMUL, (1L << 34) + 1, 1L << 34, 1L << 34, 1);
    }

    /** "OVERFLOW becomes 1": and none of these makes it 0 again. */
    private static void overflowStays() {
        Bench b = new Bench("overflow stays").put(20, Bench.LEAST).does(MOVN, 3, 20).overflow(1).put(20, 2).put(3, 6);
        for (int op : new int[] {MOVN, MOVM, IMUL, IDIV, ADD, SUB, 0240, 0340, 0350, 0360, 0370, 0200, 0400}) {
            b.doesNext(op, 3, 20).overflow(1);
        }
    }

    /** "230 IDIV: AC by it, cut to 0: AC the quotient, AC + 1 ... what is left" */
    private static void cutToZero() {
        divided(7, 2, 3, 1);
        divided(-7, 2, -3, -1);
        divided(7, -2, -3, 1);
        divided(-7, -2, 3, -1);
        divided(1, 2, 0, 1);
        divided(-1, 2, 0, -1);
        divided(0, -5, 0, 0);
        divided(Bench.LEAST, 1, Bench.LEAST, 0);
        divided(Bench.LEAST, -2, 1L << 34, 0);
        divided(Bench.LEAST, Bench.LEAST, 1, 0);
        divided(Bench.GREATEST, Bench.LEAST, 0, Bench.GREATEST);
        divided(Bench.LEAST, Bench.GREATEST, -1, -1);
        divided(Bench.GREATEST, -1, -Bench.GREATEST, 0);
        divided(Bench.LEAST + 1, -1, Bench.GREATEST, 0);
    }

    private static void divided(long x, long y, long quotient, long left) {
        new Bench("IDIV of " + x + " by " + y).put(3, x).put(4, 44).put(20, y).does(IDIV, 3, 20).next().overflow(0)
                .has(3, quotient).has(4, left).has(20, y);
    }

    /** "AC + 1 (15: 0)" */
    private static void wordBehindTheLastAc() {
        new Bench("IDIV of AC 14").put(14, 17).put(20, 5).does(IDIV, 14, 20).has(14, 3).has(15, 2).has(0, 0);
        new Bench("IDIV of AC 15").put(15, 17).put(16, 44).put(20, 5).does(IDIV, 15, 20).has(15, 3).has(0, 2).has(16, 44);
        new Bench("IDIVI of AC 15").put(15, 17).put(16, 44).does(IDIV + 1, 15, 5).has(15, 3).has(0, 2).has(16, 44);
        new Bench("IDIVB of AC 15").put(15, 17).put(16, 44).put(20, 5).does(IDIV + 3, 15, 20)
                .has(15, 3).has(0, 2).has(16, 44).has(20, 3);
    }

    /** "mode 2: E the quotient alone" */
    private static void quotientAlone() {
        new Bench("IDIVM").put(3, 17).put(4, 44).put(20, 5).does(IDIV + 2, 3, 20).has(3, 17).has(4, 44).has(20, 3);
        new Bench("IDIVM to AC + 1").put(3, 17).put(4, 5).does(IDIV + 2, 3, 4).has(3, 17).has(4, 3);
        new Bench("IDIVM to AC").put(3, 17).put(4, 44).does(IDIV + 2, 3, 3).has(3, 1).has(4, 44);
    }

    /** "E gets it first, then AC, then AC + 1" */
    private static void orderOfTheThree() {
        new Bench("IDIVB, E is AC + 1").put(3, 17).put(4, 5).does(IDIV + 3, 3, 4).has(3, 3).has(4, 2);
        new Bench("IDIVB, E is AC").put(3, 17).put(4, 44).does(IDIV + 3, 3, 3).has(3, 1).has(4, 0);
        new Bench("IDIVB of 15, E is 0").put(15, 17).put(0, 5).does(IDIV + 3, 15, 0).has(15, 3).has(0, 2);
    }

    /** "or the divisor is 0 ... then nothing else is done" */
    private static void dividedByZero() {
        for (long x : new long[] {0, 17, -17, Bench.LEAST, Bench.GREATEST}) {
            for (int mode = 0; mode < 4; mode++) {
                // In mode 1 the divisor is E itself.
                int e = mode == 1 ? 0 : 20;
                new Bench("mode " + mode + ", " + x + " by 0").put(3, x).put(4, 44).does(IDIV + mode, 3, e)
                        .next().count(1).overflow(1).has(3, x).has(4, 44).has(e, 0);
            }
        }
    }

    /** "or -2^35 is divided by -1: then nothing else is done" */
    private static void leastByLessOne() {
        for (int mode : new int[] {0, 2, 3}) {
            new Bench("mode " + mode + ", least by -1").put(3, Bench.LEAST).put(4, 44).put(20, -1)
                    .does(IDIV + mode, 3, 20).next().count(1).overflow(1).has(3, Bench.LEAST).has(4, 44).has(20, -1);
        }
        new Bench("least by the greatest E").put(3, Bench.LEAST).does(IDIV + 1, 3, 0777777).overflow(0)
                .has(3, -131072).has(4, -131072);
    }
}
