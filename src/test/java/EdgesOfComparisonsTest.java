/** Boundary cases of 300 to 377. */
public final class EdgesOfComparisonsTest {
    private static final int CAI = 0300;
    private static final int CAM = 0310;
    private static final int JUMP = 0320;
    private static final int SKIP = 0330;
    private static final int AOJ = 0340;
    private static final int AOS = 0350;
    private static final int SOJ = 0360;
    private static final int SOS = 0370;

    /** For each CONDITION whether it holds if the first is below, the same, above. */
    private static final String[] HOLDS = {"nnn", "ynn", "nyn", "yyn", "yyy", "nyy", "yny", "nny"};

    public static void main(String[] args) {
        for (int c = 0; c < 8; c++) {
            withE(c);
            withWord(c);
            withZero(c);
            needTheirWord(c);
            needNoWord(c);
            acZero(c);
            countedBeyond(c);
        }
        countedToZero();
        acOfItself();
        Bench.finish();
    }

    private static boolean holds(int c, long x, long y) {
        return HOLDS[c].charAt(x < y ? 0 : x == y ? 1 : 2) == 'y';
    }

    private static Bench of(int op, long x, long m) {
        return new Bench(Integer.toOctalString(op) + " of " + x + " and " + m).put(3, x).put(20, m);
    }

    /** "300 CAI: AC with 0,E": E has no sign, AC has one. */
    private static void withE(int c) {
        for (int e : new int[] {0, 1, 4095, 4096, 0377777, 0400000, 0777777}) {
            for (long x : new long[] {e - 1, e, e + 1, -1, Bench.LEAST, Bench.GREATEST, Bench.word(-1, e)}) {
                of(CAI + c, x, 0).does(CAI + c, 3, e).skipped(holds(c, x, e)).has(3, x).overflow(0);
            }
        }
    }

    /** "310 CAM: with C(E)": the least and the greatest are farther apart than a word can tell. */
    private static void withWord(int c) {
        long[] values = {Bench.LEAST, Bench.LEAST + 1, -1, 0, 1, Bench.GREATEST - 1, Bench.GREATEST};
        for (long x : values) {
            for (long m : values) {
                of(CAM + c, x, m).does(CAM + c, 3, 20).skipped(holds(c, x, m)).has(3, x).has(20, m).overflow(0);
            }
        }
    }

    /** "320 JUMP: AC with 0: PC is E; 330 SKIP: C(E) with 0: skips" */
    private static void withZero(int c) {
        for (long v : new long[] {Bench.LEAST, -1, 0, 1, Bench.GREATEST}) {
            of(JUMP + c, v, 0).does(JUMP + c, 3, 300).pc(holds(c, v, 0) ? 300 : Bench.PLACE + 1).has(3, v);
            of(SKIP + c, 6, v).does(SKIP + c, 3, 20).skipped(holds(c, v, 0)).has(3, v).has(20, v);
        }
    }

    /** "A word that is not there (E 4096 or above, where it is needed ...)": those that take C(E). */
    private static void needTheirWord(int c) {
        for (int op : new int[] {CAM, SKIP, AOS, SOS}) {
            of(op + c, 6, 0).faults(op + c, 3, 4096).has(3, 6).faults(op + c, 3, 0777777).has(3, 6);
            of(op + c, 6, 0).put(4095, 6).does(op + c, 3, 4095).count(1);
        }
    }

    /** The others take E itself, or go there: E may be any 18 bits. */
    private static void needNoWord(int c) {
        of(CAI + c, 6, 0).does(CAI + c, 3, 4096).count(1).has(3, 6);
        of(JUMP + c, 0, 0).does(JUMP + c, 3, 4096).pc(holds(c, 0, 0) ? 4096 : Bench.PLACE + 1).count(1);
        of(AOJ + c, -1, 0).does(AOJ + c, 3, 4096).pc(holds(c, 0, 0) ? 4096 : Bench.PLACE + 1).has(3, 0);
        of(SOJ + c, 1, 0).does(SOJ + c, 3, 0777777).pc(holds(c, 0, 0) ? 0777777 : Bench.PLACE + 1).has(3, 0);
    }

    /** "AC gets C(E), if A is not 0"; "(and AC, if A is not 0)" */
    private static void acZero(int c) {
        new Bench("SKIP, A 0").put(0, 44).put(20, 7).does(SKIP + c, 0, 20).has(0, 44).has(20, 7);
        new Bench("SKIP, A 1").put(1, 44).put(20, 7).does(SKIP + c, 1, 20).has(1, 7).has(20, 7);
        new Bench("AOS, A 0").put(0, 44).put(20, 7).does(AOS + c, 0, 20).has(0, 44).has(20, 8);
        new Bench("AOS, A 1").put(1, 44).put(20, 7).does(AOS + c, 1, 20).has(1, 8).has(20, 8);
        new Bench("SOS, A 0").put(0, 44).put(20, 7).does(SOS + c, 0, 20).has(0, 44).has(20, 6);
        new Bench("SOS, A 15").put(15, 44).put(20, 7).does(SOS + c, 15, 20).has(15, 6).has(20, 6);
        new Bench("AOJ, A 0").put(0, 44).does(AOJ + c, 0, 300).has(0, 45);
        new Bench("SOJ, A 0").put(0, 44).does(SOJ + c, 0, 300).has(0, 43);
    }

    /** "(AOJ to SOS set OVERFLOW as ADD.)": and the CONDITION is of what was kept. */
    private static void countedBeyond(int c) {
        int jumped = 300;
        int next = Bench.PLACE + 1;
        of(AOJ + c, Bench.GREATEST, 0).does(AOJ + c, 3, jumped).overflow(1).has(3, Bench.LEAST)
                .pc(holds(c, -1, 0) ? jumped : next);
        of(AOJ + c, Bench.GREATEST - 1, 0).does(AOJ + c, 3, jumped).overflow(0).has(3, Bench.GREATEST)
                .pc(holds(c, 1, 0) ? jumped : next);
        of(SOJ + c, Bench.LEAST, 0).does(SOJ + c, 3, jumped).overflow(1).has(3, Bench.GREATEST)
                .pc(holds(c, 1, 0) ? jumped : next);
        of(SOJ + c, Bench.LEAST + 1, 0).does(SOJ + c, 3, jumped).overflow(0).has(3, Bench.LEAST)
                .pc(holds(c, -1, 0) ? jumped : next);
        of(AOS + c, 6, Bench.GREATEST).does(AOS + c, 3, 20).overflow(1).has(3, Bench.LEAST).has(20, Bench.LEAST)
                .skipped(holds(c, -1, 0));
        of(AOS + c, 6, Bench.GREATEST - 1).does(AOS + c, 3, 20).overflow(0).has(20, Bench.GREATEST)
                .skipped(holds(c, 1, 0));
        of(SOS + c, 6, Bench.LEAST).does(SOS + c, 3, 20).overflow(1).has(3, Bench.GREATEST).has(20, Bench.GREATEST)
                .skipped(holds(c, 1, 0));
        of(SOS + c, 6, Bench.LEAST + 1).does(SOS + c, 3, 20).overflow(0).has(20, Bench.LEAST)
                .skipped(holds(c, -1, 0));
    }

    /** "340 AOJ: AC is 1 more, then as JUMP": the CONDITION is of the AC that was made. */
    private static void countedToZero() {
        of(AOJ + 2, -1, 0).does(AOJ + 2, 3, 300).pc(300).has(3, 0).overflow(0);
        of(AOJ + 2, 0, 0).does(AOJ + 2, 3, 300).next().has(3, 1);
        of(SOJ + 2, 1, 0).does(SOJ + 2, 3, 300).pc(300).has(3, 0);
        of(SOJ + 7, 1, 0).does(SOJ + 7, 3, 300).next().has(3, 0);
        of(AOS + 2, 6, -1).does(AOS + 2, 3, 20).skipped(true).has(20, 0).has(3, 0).overflow(0);
        of(SOS + 1, 6, 0).does(SOS + 1, 3, 20).skipped(true).has(20, -1).has(3, -1).overflow(0);
    }

    /** C(E) may be AC: it is counted once. */
    private static void acOfItself() {
        of(AOS, 6, 0).does(AOS, 3, 3).has(3, 7);
        of(SOS, 6, 0).does(SOS, 3, 3).has(3, 5);
        of(SKIP, 6, 0).does(SKIP, 3, 3).has(3, 6);
        new Bench("AOS of AC 0").put(0, 6).does(AOS, 0, 0).has(0, 7);
        new Bench("CAM with itself").put(3, 6).does(CAM + 2, 3, 3).skipped(true);
    }
}
