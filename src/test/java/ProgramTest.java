/** Promises 4 and 5 together: small programs that use many instructions, and faults amidst them. */
public final class ProgramTest {
    public static void main(String[] args) {
        factorial();
        sumOfRow();
        faultLeavesAllAsItWas();
        Bench.finish();
    }

    /** By a subroutine that calls itself: AC 1 is n, AC 2 the product, AC 17 (base 8) the stack. */
    private static void factorial() {
        Bench b = new Bench("factorial").put(1, 10).put(017, Bench.word(-50, 0500));
        b.put(0100, Bench.instruction(0260, 017, 0200));
        b.put(0101, 0);
        b.put(0200, Bench.instruction(0327, 1, 0203));
        b.put(0201, Bench.instruction(0201, 2, 1));
        b.put(0202, Bench.instruction(0263, 017, 0));
        b.put(0203, Bench.instruction(0261, 017, 1));
        b.put(0204, Bench.instruction(0360, 1, 0));
        b.put(0205, Bench.instruction(0260, 017, 0200));
        b.put(0206, Bench.instruction(0262, 017, 1));
        b.put(0207, Bench.instruction(0220, 2, 1));
        b.put(0210, Bench.instruction(0263, 017, 0));
        b.go(0100, 500, true, 1).pc(0102).overflow(0).count(1 + 10 * 7 + 3 + 1)
                .has(2, 3628800).has(1, 10).has(017, Bench.word(-50, 0500));
        b.put(1, 14).go(0100, 500, true, 1).overflow(1).has(2, 87178291200L - (1L << 36));
    }

    private static void sumOfRow() {
        Bench b = new Bench("sum").put(1, Bench.word(-5, 0)).put(2, 0);
        for (int k = 0; k < 5; k++) {
            b.put(0300 + k, 10 + k);
        }
        b.put(0100, Bench.instruction(0270, 2, 0, 1, 0300));
        b.put(0101, Bench.instruction(0253, 1, 0100));
        b.put(0102, Bench.instruction(0254, 0, 4096));
        b.go(0100, 500, true, 2).pc(4096).count(11).has(2, 60).has(1, Bench.word(0, 5));
    }

    private static void faultLeavesAllAsItWas() {
        Bench b = new Bench("fault").put(3, Bench.LEAST).put(4, 4095).put(0200, Bench.instruction(0261, 4, 3));
        b.put(0100, Bench.instruction(0210, 5, 3)).put(0101, Bench.instruction(0256, 0, 0200));
        b.go(0100, 10, true, 2).pc(0101).count(1).overflow(1).has(4, 4095).has(5, Bench.LEAST);
        b.go(0101, 10, false, 2).pc(0101).count(0).overflow(1);
        b.go(0101, 10, true, 2).pc(0101).count(0).overflow(0);
    }
}
