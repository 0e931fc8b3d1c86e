/** Promises 4 and 5: what go answers, how far it goes, and what look tells of it. */
public final class GoAndLookTest {
    private static final int AOJ = 0340;
    private static final int JRST = 0254;
    private static final int MOVN = 0210;

    public static void main(String[] args) {
        refusals();
        asManyAsAsked();
        stopping();
        overflowStaysOrGoes();
        pcThatIsNotThere();
        lookRefuses();
        Bench.finish();
    }

    private static void refusals() {
        int[] pcs = {-1, 4096, Integer.MIN_VALUE, Integer.MAX_VALUE, 262143};
        Bench b = new Bench("refused go").put(20, Bench.LEAST).does(MOVN, 3, 20).overflow(1);
        for (int pc : pcs) {
            b.go(pc, 1, true, TenMachine.REFUSED);
        }
        int[] ns = {-1, 501, Integer.MIN_VALUE, Integer.MAX_VALUE};
        for (int n : ns) {
            b.go(0, n, true, TenMachine.REFUSED);
        }
        b.next().overflow(1).count(1);
    }

    private static void asManyAsAsked() {
        Bench b = new Bench("a loop").put(0100, Bench.instruction(AOJ, 3, 0)).put(0101, Bench.instruction(JRST, 0, 0100));
        b.go(0100, 0, true, 0).pc(0100).count(0).has(3, 0);
        b.go(0100, 1, true, 0).pc(0101).count(1).has(3, 1);
        b.go(0101, 2, true, 0).pc(0101).count(2).has(3, 2);
        b.go(0100, 500, true, 0).pc(0100).count(500).has(3, 252);
        b.go(4095, 0, true, 0).pc(4095).count(0);
        b.go(0, 0, true, 0).pc(0).count(0);
    }

    private static void stopping() {
        Bench b = new Bench("a stop").put(0100, Bench.instruction(AOJ, 3, 0)).put(0101, 0);
        b.go(0100, 1, true, 0).pc(0101).count(1);
        b.go(0100, 2, true, 1).pc(0102).count(2);
        b.go(0100, 500, true, 1).pc(0102).count(2).has(3, 3);
        b.go(0101, 1, true, 1).pc(0102).count(1);
        for (int op = 0; op < 512; op++) {
            if (isStop(op)) {
                new Bench("stop " + Integer.toOctalString(op)).put(3, -5).put(20, 7).stops(op, 3, 20)
                        .overflow(0).has(3, -5).has(4, 0).has(20, 7).stops(op, 3, 4096);
            } else {
                Bench other = new Bench("no stop " + Integer.toOctalString(op)).put(3, 30).put(20, 0201L << 27);
                other.put(Bench.PLACE, Bench.instruction(op, 3, 20)).go(Bench.PLACE, 1, true, 0).count(1);
            }
        }
    }

    private static boolean isStop(int op) {
        if (op < 0200 || op >= 0700) {
            return true;
        }
        int family = op & 0774;
        return family == 0224 || family == 0234 || family == 0244 || op == 0257 || op == 0266 || op == 0267;
    }

    private static void overflowStaysOrGoes() {
        Bench b = new Bench("overflow").put(20, Bench.LEAST).does(MOVN, 3, 20).overflow(1);
        b.go(Bench.PLACE + 1, 1, false, 1).overflow(1);
        b.go(Bench.PLACE + 1, 0, false, 0).overflow(1);
        b.go(Bench.PLACE + 1, 0, true, 0).overflow(0);
        b.put(20, 5).doesNext(MOVN, 3, 20).overflow(0);
    }

    private static void pcThatIsNotThere() {
        Bench end = new Bench("behind the last word").put(4095, Bench.instruction(AOJ, 3, 0));
        end.go(4095, 1, true, 0).pc(4096).count(1).has(3, 1);
        end.go(4095, 2, true, 2).pc(4096).count(1).has(3, 2);
        Bench skip = new Bench("skipping the end").put(4095, Bench.instruction(0344, 3, 262143));
        skip.go(4095, 2, true, 2).pc(262143).count(1);
        skip.put(4095, Bench.instruction(0304, 3, 0)).go(4095, 2, true, 2).pc(4097).count(1);
        Bench jump = new Bench("jumping away").put(0100, Bench.instruction(JRST, 0, 4096));
        jump.go(0100, 1, true, 0).pc(4096).count(1);
        jump.go(0100, 500, true, 2).pc(4096).count(1);
    }

    private static void lookRefuses() {
        TenMachine x = new TenMachine();
        int[] others = {-1, 3, 4, Integer.MIN_VALUE, Integer.MAX_VALUE};
        for (int what : others) {
            Bench.due("look(" + what + ")", x.look(what), TenMachine.REFUSED);
        }
    }
}
