/** Boundary cases of go and look: promises 4 and 5, STOPS and FAULTS. */
public final class EdgesOfGoTest {
    private static final int MOVN = 0210;
    private static final int AOJ = 0340;
    private static final int JRST = 0254;
    private static final int XCT = 0256;

    public static void main(String[] args) {
        noInstructions();
        mostInstructions();
        firstAndLastPc();
        refusedPc();
        refusedN();
        refusedGoChangesNothing();
        freshOrNot();
        stopAtTheEndOfN();
        stopIsBehind();
        stopsAndTheirNeighbours();
        faultAfterSome();
        faultLeavesEverything();
        faultComesAgain();
        lookOfOthers();
        latestGo();
        xctIsOne();
        mostCalls();
        Bench.finish();
    }

    private static Bench loop(String name) {
        return new Bench(name).put(0100, Bench.instruction(AOJ, 3, 0)).put(0101, Bench.instruction(JRST, 0, 0100));
    }

    private static Bench overflowing(String name) {
        return new Bench(name).put(20, Bench.LEAST).does(MOVN, 4, 20).overflow(1).count(1);
    }

    /** "at most n (0 to 500) instructions are done": n 0 sets PC alone. */
    private static void noInstructions() {
        loop("n 0").go(0100, 0, true, 0).pc(0100).count(0).has(3, 0);
        new Bench("n 0 at a stop").go(50, 0, true, 0).pc(50).count(0);
        overflowing("n 0, not fresh").go(50, 0, false, 0).pc(50).count(0).overflow(1);
        overflowing("n 0, fresh").go(50, 0, true, 0).pc(50).count(0).overflow(0);
    }

    /** "at most n (0 to 500) instructions are done: 0 n were" */
    private static void mostInstructions() {
        loop("n 1").go(0100, 1, true, 0).pc(0101).count(1).has(3, 1);
        loop("n 499").go(0100, 499, true, 0).pc(0101).count(499).has(3, 250);
        loop("n 500").go(0100, 500, true, 0).pc(0100).count(500).has(3, 250);
    }

    /** "REFUSED if pc is not 0 to 4095": these two are. */
    private static void firstAndLastPc() {
        new Bench("pc 0").go(0, 1, true, 1).pc(1).count(1);
        new Bench("pc 4095").go(4095, 1, true, 1).pc(4096).count(1);
        new Bench("pc 4095, n 0").go(4095, 0, true, 0).pc(4095).count(0);
    }

    /** "REFUSED if pc is not 0 to 4095" */
    private static void refusedPc() {
        for (int pc : new int[] {-1, 4096, 4097, 8192, 1 << 18, -4096, Integer.MIN_VALUE, Integer.MAX_VALUE}) {
            loop("pc " + pc).go(pc, 1, true, TenMachine.REFUSED).go(pc, 0, false, TenMachine.REFUSED)
                    .go(pc, 500, true, TenMachine.REFUSED).pc(0).count(0);
        }
    }

    /** "or another n" */
    private static void refusedN() {
        for (int n : new int[] {-1, 501, 502, -500, Integer.MIN_VALUE, Integer.MAX_VALUE}) {
            loop("n " + n).go(0100, n, true, TenMachine.REFUSED).go(0, n, false, TenMachine.REFUSED)
                    .go(4096, n, true, TenMachine.REFUSED).pc(0).count(0).has(3, 0);
        }
    }

    /** A call that is refused changes no word, PC, OVERFLOW or count. */
    private static void refusedGoChangesNothing() {
        Bench b = overflowing("refused").put(3, 6).put(0, Bench.instruction(AOJ, 3, 0));
        b.go(-1, 1, true, TenMachine.REFUSED).go(4096, 1, true, TenMachine.REFUSED);
        b.go(0, -1, true, TenMachine.REFUSED).go(0, 501, true, TenMachine.REFUSED);
        b.next().overflow(1).count(1).has(3, 6).has(4, Bench.LEAST);
    }

    /** "OVERFLOW 0 if fresh (else as it was)" */
    private static void freshOrNot() {
        overflowing("not fresh").go(50, 1, false, 1).overflow(1);
        overflowing("fresh").go(50, 1, true, 1).overflow(0);
        new Bench("was 0, not fresh").go(50, 1, false, 1).overflow(0);
        overflowing("put and get keep it").put(50, 7).has(50, 7).overflow(1);
        Bench b = overflowing("fresh at its beginning alone").put(50, Bench.instruction(MOVN, 4, 20)).put(51, 0);
        b.go(50, 2, true, 1).overflow(1);
    }

    /** "1 a STOP": the n-th instruction, or one that is not reached. */
    private static void stopAtTheEndOfN() {
        Bench b = new Bench("a stop").put(50, Bench.instruction(AOJ, 3, 0)).put(51, 0);
        b.go(50, 1, true, 0).pc(51).count(1);
        b.go(50, 2, true, 1).pc(52).count(2);
        b.go(50, 3, true, 1).pc(52).count(2);
        b.go(50, 500, true, 1).pc(52).count(2).has(3, 4);
    }

    /** "1 a STOP (PC is behind it)" */
    private static void stopIsBehind() {
        new Bench("stop at the last word").go(4095, 2, true, 1).pc(4096).count(1);
        new Bench("stop by XCT").put(50, Bench.instruction(XCT, 0, 70)).go(50, 2, true, 1).pc(51).count(1);
        new Bench("stop by XCT at the last word").put(4095, Bench.instruction(XCT, 0, 70)).go(4095, 2, true, 1)
                .pc(4096).count(1);
    }

    /** "Others, also 1 to 37, are STOPS." */
    private static void stopsAndTheirNeighbours() {
        int[] firsts = {0, 0224, 0234, 0244, 0257, 0266, 0700};
        int[] lasts = {0177, 0227, 0237, 0247, 0257, 0267, 0777};
        int k = 0;
        for (int op = 0; op <= 0777; op++) {
            if (k < firsts.length && op > lasts[k]) {
                k++;
            }
            boolean isStop = k < firsts.length && op >= firsts[k];
            Bench b = new Bench("OP " + Integer.toOctalString(op)).put(3, 30).put(4, 44).put(20, 0201L << 27);
            b.put(Bench.PLACE, Bench.instruction(op, 3, 20)).go(Bench.PLACE, 1, true, isStop ? 1 : 0).count(1);
            if (isStop) {
                b.next().overflow(0).has(3, 30).has(4, 44).has(20, 0201L << 27);
            }
        }
    }

    /** "2 a FAULT": what was done before it stays done, and counts. */
    private static void faultAfterSome() {
        Bench b = new Bench("a fault").put(50, Bench.instruction(AOJ, 3, 0)).put(51, Bench.instruction(0200, 3, 4096));
        b.go(50, 1, true, 0).pc(51).count(1).has(3, 1);
        b.go(50, 2, true, 2).pc(51).count(1).has(3, 2);
        b.go(50, 500, true, 2).pc(51).count(1).has(3, 3);
        b.go(51, 1, true, 2).pc(51).count(0).has(3, 3);
    }

    /** "FAULT: nothing of it is done (PC is that of it)": no AC, no word, not OVERFLOW. */
    private static void faultLeavesEverything() {
        long[] faulty = {
            Bench.instruction(0213, 3, 4096), Bench.instruction(0223, 3, 4096), Bench.instruction(0233, 3, 4096),
            Bench.instruction(0250, 3, 4096), Bench.instruction(0251, 5, 4096), Bench.instruction(0256, 3, 4096),
            Bench.instruction(0260, 6, 70), Bench.instruction(0261, 6, 70), Bench.instruction(0261, 5, 4096),
            Bench.instruction(0262, 7, 70), Bench.instruction(0262, 5, 4096), Bench.instruction(0263, 7, 70),
            Bench.instruction(0264, 3, 4096), Bench.instruction(0334, 3, 4096), Bench.instruction(0354, 3, 4096),
            Bench.instruction(0374, 3, 4096), Bench.instruction(0477, 3, 4096), Bench.instruction(0577, 3, 4096),
            Bench.instruction(0677, 3, 4096), Bench.instruction(0344, 3, 1, 0, 4096), Bench.instruction(0252, 3, 1, 0, 4096),
            Bench.instruction(0265, 3, 1, 0, 4096), Bench.instruction(0255, 8, 1, 0, 4096),
        };
        for (long instruction : faulty) {
            for (boolean fresh : new boolean[] {true, false}) {
                Bench b = overflowing("fault of " + Long.toOctalString(instruction & (1L << 36) - 1));
                b.put(5, Bench.word(71, 70)).put(6, 4095).put(7, 4096).put(3, Bench.GREATEST).put(71, 9);
                b.put(4095, 8).put(50, instruction).go(50, 5, fresh, 2).pc(50).count(0).overflow(fresh ? 0 : 1);
                b.has(0, 0).has(3, Bench.GREATEST).has(4, Bench.LEAST).has(5, Bench.word(71, 70)).has(6, 4095);
                b.has(7, 4096).has(8, 0).has(70, 0).has(71, 9).has(4095, 8).has(50, instruction);
            }
        }
    }

    /** "(PC is that of it)": a go from there finds the same fault. */
    private static void faultComesAgain() {
        Bench b = new Bench("again").put(50, Bench.instruction(XCT, 0, 70)).put(70, Bench.instruction(0202, 3, 4096));
        b.go(50, 5, true, 2).pc(50).count(0).go(50, 5, false, 2).pc(50).count(0);
        b.put(70, Bench.instruction(0202, 3, 4095)).go(50, 1, false, 0).pc(51).count(1);
    }

    /** "REFUSED for others." (look) */
    private static void lookOfOthers() {
        Bench b = overflowing("look");
        for (int what : new int[] {-1, 3, 4, 256, 1 << 16, Integer.MIN_VALUE, Integer.MAX_VALUE}) {
            Bench.due("look(" + what + ")", b.machine.look(what), TenMachine.REFUSED);
        }
        b.next().overflow(1).count(1);
    }

    /** "2: instructions that the latest go did (a STOP counts ...)" */
    private static void latestGo() {
        Bench b = loop("latest");
        b.count(0).go(0100, 500, true, 0).count(500).count(500);
        b.go(0100, 7, true, 0).count(7).put(50, 5).has(50, 5).count(7);
        b.put(50, 0).go(50, 7, true, 1).count(1);
        b.put(50, Bench.instruction(XCT, 0, 4096)).go(50, 7, true, 2).count(0);
        b.go(0100, 0, true, 0).count(0);
    }

    /** "XCT with what it does is one" */
    private static void xctIsOne() {
        Bench b = new Bench("XCT").put(50, Bench.instruction(XCT, 0, 70)).put(70, Bench.instruction(XCT, 0, 71));
        b.put(71, Bench.instruction(AOJ, 3, 0)).put(51, Bench.instruction(JRST, 0, 50));
        b.go(50, 1, true, 0).count(1).pc(51).has(3, 1);
        b.go(50, 500, true, 0).count(500).pc(50).has(3, 251);
    }

    /** "An object is used for at most 512 calls after it has been made": the 512th answers as the first. */
    private static void mostCalls() {
        Bench b = loop("512 calls");
        for (int calls = 2; calls < 510; calls++) {
            b.go(0100, 500, false, 0);
        }
        b.pc(0100).has(3, 250 * 508);
    }
}
