/**
 * A machine on which a test does instructions and says what is due. The instruction stands at word
 * PLACE; every answer that is not the due one is printed, and finish() ends the test with 1 then.
 */
final class Bench {
    static final int PLACE = 0100;
    static final long LEAST = -(1L << 35);
    static final long GREATEST = (1L << 35) - 1;

    private static int wrong = 0;
    private static int asked = 0;

    final TenMachine machine = new TenMachine();
    private final String name;

    Bench(String name) {
        this.name = name;
    }

    static void due(String what, long got, long want) {
        asked++;
        if (got != want) {
            wrong++;
            System.out.println(what + ": answered " + got + ", due is " + want);
        }
    }

    static void finish() {
        if (asked == 0 || wrong != 0) {
            System.out.println(wrong + " of " + asked + " answers are not as due");
            System.exit(1);
        }
    }

    static long word(long left, long right) {
        long bits = (left & 0777777) << 18 | (right & 0777777);
        return bits > GREATEST ? bits - (1L << 36) : bits;
    }

    static long instruction(int op, int a, int i, int x, int y) {
        return word((long) op << 9 | a << 5 | i << 4 | x, y);
    }

    static long instruction(int op, int a, int y) {
        return instruction(op, a, 0, 0, y);
    }

    Bench put(int a, long v) {
        due(name + " put(" + a + ", " + v + ")", machine.put(a, v), 0);
        return this;
    }

    Bench go(int pc, int n, boolean fresh, int want) {
        due(name + " go(" + pc + ", " + n + ", " + fresh + ")", machine.go(pc, n, fresh), want);
        return this;
    }

    /** The one instruction is done, after OVERFLOW has become 0. */
    Bench does(int op, int a, int e) {
        return put(PLACE, instruction(op, a, e)).go(PLACE, 1, true, 0);
    }

    /** The one instruction is done, and OVERFLOW is before as it was. */
    Bench doesNext(int op, int a, int e) {
        return put(PLACE, instruction(op, a, e)).go(PLACE, 1, false, 0);
    }

    Bench stops(int op, int a, int e) {
        return put(PLACE, instruction(op, a, e)).go(PLACE, 1, true, 1).pc(PLACE + 1).count(1);
    }

    Bench faults(int op, int a, int e) {
        return put(PLACE, instruction(op, a, e)).go(PLACE, 1, true, 2).pc(PLACE).count(0);
    }

    /** As does, but for an instruction that is told whole, with its I and X. */
    Bench doesWord(long instruction) {
        return put(PLACE, instruction).go(PLACE, 1, true, 0);
    }

    Bench faultsWord(long instruction) {
        return put(PLACE, instruction).go(PLACE, 1, true, 2).pc(PLACE).count(0);
    }

    Bench has(int a, long want) {
        due(name + " get(" + a + ")", machine.get(a), want);
        return this;
    }

    Bench pc(int want) {
        due(name + " look(0)", machine.look(0), want);
        return this;
    }

    Bench next() {
        return pc(PLACE + 1);
    }

    Bench skipped(boolean want) {
        return pc(want ? PLACE + 2 : PLACE + 1);
    }

    Bench overflow(int want) {
        due(name + " look(1)", machine.look(1), want);
        return this;
    }

    Bench count(int want) {
        due(name + " look(2)", machine.look(2), want);
        return this;
    }
}
