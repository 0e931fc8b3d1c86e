/** Boundary cases of ASH, ROT, LSH and JFFO. */
public final class EdgesOfShiftsTest {
    private static final int ASH = 0240;
    private static final int ROT = 0241;
    private static final int LSH = 0242;
    private static final int JFFO = 0243;

    public static void main(String[] args) {
        bitsThatLeave();
        signAndLowest35();
        allBitsLeave();
        roundedDown();
        byNothing();
        turnedRound();
        zerosComeIn();
        remainderBy256();
        eIsNoWord();
        firstOne();
        noOne();
        wordBehindTheLastAc();
        Bench.finish();
    }

    private static void shift(int op, long v, int n, long want, int overflow) {
        new Bench(Integer.toOctalString(op) + " of " + v + " by " + n).put(3, v).put(4, 44).does(op, 3, n & 0777777)
                .next().count(1).has(3, want).has(4, 44).overflow(overflow);
    }

    /** "bits that leave that are not as the sign set OVERFLOW" */
    private static void bitsThatLeave() {
        shift(ASH, 1, 34, 1L << 34, 0);
        shift(ASH, 1, 35, 0, 1);
        shift(ASH, -1, 34, -(1L << 34), 0);
        shift(ASH, -1, 35, Bench.LEAST, 0);
        shift(ASH, -2, 34, Bench.LEAST, 0);
        shift(ASH, -2, 35, Bench.LEAST, 1);
        shift(ASH, Bench.GREATEST >> 1, 1, Bench.GREATEST - 1, 0);
        shift(ASH, (Bench.GREATEST >> 1) + 1, 1, 0, 1);
        shift(ASH, -(1L << 34), 1, Bench.LEAST, 0);
        shift(ASH, -(1L << 34) - 1, 1, -2, 1);
        shift(ASH, Bench.LEAST, 1, Bench.LEAST, 1);
        shift(ASH, Bench.LEAST, -1, -(1L << 34), 0);
        shift(ASH, Bench.GREATEST, -1, Bench.GREATEST >> 1, 0);
        new Bench("ASH leaves OVERFLOW 1").put(3, 1).does(ASH, 3, 35).overflow(1).put(3, 1).doesNext(ASH, 3, 1)
                .overflow(1).has(3, 2);
    }

    /** "sign kept ... the sign and the lowest 35 bits stay" */
    private static void signAndLowest35() {
        shift(ASH, Bench.GREATEST, 1, Bench.GREATEST - 1, 1);
        shift(ASH, Bench.LEAST + 1, 1, Bench.LEAST + 2, 1);
        shift(ASH, Bench.LEAST + 1, 34, Bench.LEAST + (1L << 34), 1);
        shift(ASH, 3, 34, 1L << 34, 1);
    }

    /** Where all 35 bits leave, the sign alone stays; 0s that came in leave as well, unlike a 1 as sign. */
    private static void allBitsLeave() {
        for (int n : new int[] {36, 37, 63, 64, 65, 71, 100, 127, 128, 255}) {
            shift(ASH, 0, n, 0, 0);
            shift(ASH, 1, n, 0, 1);
            shift(ASH, Bench.GREATEST, n, 0, 1);
            shift(ASH, -1, n, Bench.LEAST, 1);
            shift(ASH, Bench.LEAST, n, Bench.LEAST, 1);
        }
    }

    /** "(n below 0: rounded down)" */
    private static void roundedDown() {
        shift(ASH, 5, -1, 2, 0);
        shift(ASH, -5, -1, -3, 0);
        shift(ASH, -1, -1, -1, 0);
        shift(ASH, 1, -1, 0, 0);
        shift(ASH, Bench.LEAST, -34, -2, 0);
        shift(ASH, Bench.LEAST, -35, -1, 0);
        shift(ASH, Bench.GREATEST, -34, 1, 0);
        shift(ASH, Bench.GREATEST, -35, 0, 0);
        for (int n : new int[] {-36, -37, -63, -64, -65, -128, -255}) {
            shift(ASH, Bench.LEAST, n, -1, 0);
            shift(ASH, -1, n, -1, 0);
            shift(ASH, Bench.GREATEST, n, 0, 0);
        }
    }

    /** "E's 18 bits with sign n": n may be 0. */
    private static void byNothing() {
        for (int op = ASH; op <= LSH; op++) {
            shift(op, Bench.LEAST, 0, Bench.LEAST, 0);
            shift(op, Bench.GREATEST, 0, Bench.GREATEST, 0);
            shift(op, -5, 0, -5, 0);
        }
    }

    /** "241 ROT: turned round by n" */
    private static void turnedRound() {
        shift(ROT, Bench.LEAST, 1, 1, 0);
        shift(ROT, 1, -1, Bench.LEAST, 0);
        shift(ROT, 1, 35, Bench.LEAST, 0);
        shift(ROT, 1, 36, 1, 0);
        shift(ROT, 1, 37, 2, 0);
        shift(ROT, 1, -35, 2, 0);
        shift(ROT, 1, -36, 1, 0);
        shift(ROT, 1, -37, Bench.LEAST, 0);
        shift(ROT, 1, 252, 1, 0);
        shift(ROT, 1, 255, 8, 0);
        shift(ROT, 8, -255, 1, 0);
        shift(ROT, -1, 17, -1, 0);
        shift(ROT, Bench.word(0123456, 0701234), 18, Bench.word(0701234, 0123456), 0);
        shift(ROT, Bench.word(0123456, 0701234), -18, Bench.word(0701234, 0123456), 0);
    }

    /** "242 LSH: without sign, 0s come in" */
    private static void zerosComeIn() {
        shift(LSH, 1, 35, Bench.LEAST, 0);
        shift(LSH, -1, 35, Bench.LEAST, 0);
        shift(LSH, -1, 1, -2, 0);
        shift(LSH, -1, -1, Bench.GREATEST, 0);
        shift(LSH, Bench.LEAST, -35, 1, 0);
        shift(LSH, Bench.LEAST, 1, 0, 0);
        shift(LSH, Bench.GREATEST, 1, -2, 0);
        for (int n : new int[] {36, 37, 63, 64, 65, 100, 128, 255}) {
            shift(LSH, -1, n, 0, 0);
            shift(LSH, -1, -n, 0, 0);
        }
    }

    /** "n is taken as -255 to 255: n's remainder by 256" */
    private static void remainderBy256() {
        for (int op = ASH; op <= LSH; op++) {
            shift(op, 5, 256, 5, 0);
            shift(op, 5, -256, 5, 0);
            shift(op, 5, 257, 10, 0);
            shift(op, 6, -257, 3, 0);
            shift(op, 5, 512, 5, 0);
            shift(op, 6, -513, 3, 0);
            // The least n there is, and one more: their remainders are 0 and -255.
            shift(op, 5, -131072, 5, 0);
            // The greatest n but 254: its remainder is 1.
            shift(op, 5, 131071 - 254, 10, 0);
        }
        shift(ASH, -5, -131071, -1, 0);
        shift(LSH, -5, -131071, 0, 0);
        shift(ROT, 8, -131071, 1, 0);
        shift(ASH, 5, 131071, 0, 1);
        shift(LSH, -5, 131071, 0, 0);
        shift(ROT, 1, 131071, 8, 0);
    }

    /** "E 4096 or above, where it is needed": a shift takes E itself, and JFFO goes there. */
    private static void eIsNoWord() {
        shift(ASH, 5, 4096, 5, 0);
        shift(ROT, 5, 4097, 10, 0);
        shift(LSH, 5, 4097, 10, 0);
        new Bench("JFFO to 4096").put(3, 5).does(JFFO, 3, 4096).pc(4096).count(1).has(4, 33);
    }

    /** "else AC + 1 is how many 0s are before its first 1, PC is E" */
    private static void firstOne() {
        found(Bench.LEAST, 0);
        found(-1, 0);
        found(Bench.GREATEST, 1);
        found(1L << 34, 1);
        found(1L << 18, 17);
        found((1L << 18) - 1, 18);
        found(1L << 17, 18);
        found(3, 34);
        found(1, 35);
    }

    private static void found(long v, int zeros) {
        new Bench("JFFO of " + v).put(3, v).put(4, 44).does(JFFO, 3, 300).pc(300).overflow(0).has(3, v).has(4, zeros);
    }

    /** "243 JFFO: AC 0: AC + 1 is 0": and PC stays with the next instruction. */
    private static void noOne() {
        new Bench("JFFO of 0").put(4, 44).does(JFFO, 3, 300).next().has(3, 0).has(4, 0);
    }

    /** "AC + 1 (15: 0)", of JFFO */
    private static void wordBehindTheLastAc() {
        new Bench("JFFO of AC 15").put(15, 1).put(0, 44).put(16, 55).does(JFFO, 15, 300).pc(300).has(0, 35).has(16, 55);
        new Bench("JFFO of 0 in AC 15").put(0, 44).put(16, 55).does(JFFO, 15, 300).next().has(0, 0).has(16, 55);
        new Bench("JFFO of AC 14").put(14, 1).put(0, 44).does(JFFO, 14, 300).has(15, 35).has(0, 44);
    }
}
