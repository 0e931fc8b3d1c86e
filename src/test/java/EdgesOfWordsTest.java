/** Boundary cases of the words themselves: promises 1, 2 and 3, and what 'Terms' says of words. */
public final class EdgesOfWordsTest {
    private static final long NO_WORD = 1L << 40;
    private static final int MOVE = 0200;
    private static final int MOVEM = 0202;

    public static void main(String[] args) {
        leastAndGreatest();
        lowest36Bits();
        firstAndLastWord();
        refusedPutChangesNothing();
        noWordIsTold();
        firstAndLastAc();
        acsAreWords();
        partsOfAnInstruction();
        highestBitOfOp();
        newObject();
        Bench.finish();
    }

    /** "words of 36 bits, told as longs -2^35 to 2^35 - 1" */
    private static void leastAndGreatest() {
        new Bench("least and greatest").put(20, Bench.LEAST).has(20, -34359738368L)
                .put(21, Bench.GREATEST).has(21, 34359738367L)
                .does(MOVE, 3, 20).has(3, -34359738368L)
                .does(MOVE, 3, 21).has(3, 34359738367L);
    }

    /** "Word a of the machine becomes v (its lowest 36 bits): 0." */
    private static void lowest36Bits() {
        new Bench("one too large").put(5, Bench.GREATEST + 1).has(5, Bench.LEAST);
        new Bench("one too small").put(5, Bench.LEAST - 1).has(5, Bench.GREATEST);
        new Bench("36 ones").put(5, (1L << 36) - 1).has(5, -1);
        new Bench("37th bit").put(5, 9).put(5, 1L << 36).has(5, 0);
        new Bench("37th bit below 0").put(5, 9).put(5, -(1L << 36)).has(5, 0);
        new Bench("longest").put(5, Long.MAX_VALUE).has(5, -1).put(5, Long.MIN_VALUE).has(5, 0);
        new Bench("longest but for bit 35").put(5, Long.MAX_VALUE - (1L << 35)).has(5, Bench.GREATEST);
        new Bench("an AC, too").put(0, (1L << 36) + 5).has(0, 5).put(15, Bench.LEAST - 1).has(15, Bench.GREATEST);
    }

    /** "4096 of them": the first and the last one are there. */
    private static void firstAndLastWord() {
        new Bench("first and last").put(0, 6).put(4095, 7).has(0, 6).has(4095, 7).has(1, 0).has(4094, 0)
                .does(MOVE, 3, 4095).has(3, 7).does(MOVEM, 3, 0).has(0, 7).does(MOVEM, 3, 4095).has(4095, 7);
    }

    /** "REFUSED for another word." */
    private static void refusedPutChangesNothing() {
        for (int a : new int[] {-1, 4096, -4096, 8191, 1 << 18, Integer.MIN_VALUE, Integer.MAX_VALUE}) {
            Bench b = new Bench("refused put(" + a + ")").put(0, 6).put(4095, 7);
            Bench.due("put(" + a + ", 5)", b.machine.put(a, 5), TenMachine.REFUSED);
            b.has(0, 6).has(4095, 7).has(a & 4095, (a & 4095) == 0 ? 6 : 7).pc(0).overflow(0).count(0);
        }
    }

    /** "Word a of the machine; 2^40 for another." */
    private static void noWordIsTold() {
        for (int a : new int[] {-1, 4096, -4096, 8191, 1 << 18, Integer.MIN_VALUE, Integer.MAX_VALUE}) {
            new Bench("get of no word").put(0, 6).put(4095, 7).has(a, NO_WORD).has(a, 1099511627776L);
        }
    }

    /** "words 0 to 15 are the ACS, too": the first and the last one. */
    private static void firstAndLastAc() {
        new Bench("AC 0").put(20, -8).does(MOVE, 0, 20).has(0, -8).has(1, 0);
        new Bench("AC 15").put(20, -8).does(MOVE, 15, 20).has(15, -8).has(14, 0).has(16, 0);
    }

    /** "words 0 to 15 are the ACS, too": E may be an AC, and an instruction may stand in one. */
    private static void acsAreWords() {
        new Bench("E is AC 15").put(15, 44).does(MOVE, 3, 15).has(3, 44);
        new Bench("E is AC 0").put(3, 44).does(MOVEM, 3, 0).has(0, 44);
        new Bench("done in an AC").put(15, Bench.instruction(MOVE, 15, 20)).put(20, 5).go(15, 1, true, 0)
                .pc(16).has(15, 5);
        new Bench("done in AC 0").put(0, Bench.instruction(0201, 0, 7)).go(0, 1, true, 0).pc(1).has(0, 7)
                .go(0, 1, true, 1);
    }

    /** "OP (9 bits, the highest), A (4 bits, an AC), I (1), X (4), Y (18)": each one at its greatest. */
    private static void partsOfAnInstruction() {
        new Bench("A, X, Y of ones").put(15, 3).doesWord(Bench.instruction(0201, 15, 0, 15, 0777777)).has(15, 2);
        new Bench("A of ones, X and Y of 0s").doesWord(Bench.instruction(0201, 15, 0, 0, 0)).has(15, 0).has(0, 0);
        new Bench("I and X of ones").put(15, 4090).put(4095, Bench.instruction(0777, 15, 0, 0, 0654321))
                .doesWord(Bench.instruction(0201, 7, 1, 15, 5)).has(7, 0654321).has(15, 4090);
        new Bench("OP of ones").put(Bench.PLACE, Bench.instruction(0777, 15, 0, 15, 0777777))
                .go(Bench.PLACE, 1, true, 1).next().count(1);
    }

    /** "OP (9 bits, the highest)": from 400 on the word of the instruction is below 0. */
    private static void highestBitOfOp() {
        new Bench("OP 377").put(20, 1).does(0377, 3, 20).has(20, 0).next();
        new Bench("OP 400").put(3, 6).does(0400, 3, 20).has(3, 0);
        new Bench("OP 677").put(20, Bench.word(1, 2)).does(0677, 3, 20).has(3, Bench.word(2, 1));
    }

    /** "All words 0.": and PC, OVERFLOW and the count with them, since nothing was done. */
    private static void newObject() {
        new Bench("new").has(0, 0).has(15, 0).has(16, 0).has(4095, 0).pc(0).overflow(0).count(0);
    }
}
