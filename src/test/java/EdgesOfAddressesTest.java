/** Boundary cases of how E is found, of XCT, and of PC. */
public final class EdgesOfAddressesTest {
    private static final int MOVE = 0200;
    private static final int MOVEI = 0201;
    private static final int AOJ = 0340;
    private static final int XCT = 0256;
    private static final int JSP = 0265;

    public static void main(String[] args) {
        sumOf18Bits();
        rightHalfAlone();
        xOfZero();
        toldAnew();
        eightTimes();
        chainToNoWord();
        chainFromTheLastWord();
        asAWord();
        eightXcts();
        xctsAndIndirections();
        xctOfNoWord();
        pcBeforeItIsDone();
        pcOfNoWord();
        Bench.finish();
    }

    /** "E, 18 bits: Y, if X is not 0 plus the right half of AC X" */
    private static void sumOf18Bits() {
        index("one less than too much", 0777776, 1, 0777777);
        index("one too much", 0777777, 1, 0);
        index("both greatest", 0777777, 0777777, 0777776);
        index("half and half", 0400000, 0400000, 0);
        index("of 0s", 0, 0, 0);
        new Bench("wraps to a word").put(1, -80).put(20, 7).doesWord(Bench.instruction(MOVE, 3, 0, 1, 100)).has(3, 7);
    }

    private static void index(String name, int y, int right, int want) {
        new Bench(name).put(1, right).doesWord(Bench.instruction(MOVEI, 3, 0, 1, y)).has(3, want);
        new Bench(name).put(15, right).doesWord(Bench.instruction(MOVEI, 3, 0, 15, y)).has(3, want);
    }

    /** "plus the right half of AC X": its left half does not count. */
    private static void rightHalfAlone() {
        new Bench("left half of ones").put(1, Bench.word(0777777, 7)).doesWord(Bench.instruction(MOVEI, 3, 0, 1, 5))
                .has(3, 12);
        new Bench("left half alone").put(1, Bench.LEAST).doesWord(Bench.instruction(MOVEI, 3, 0, 1, 5)).has(3, 5);
    }

    /** "if X is not 0": AC 0 is no index. */
    private static void xOfZero() {
        new Bench("X 0").put(0, 7).doesWord(Bench.instruction(MOVEI, 3, 0, 0, 5)).has(3, 5);
        new Bench("X 0 on the way").put(0, 7).put(20, 5).doesWord(Bench.instruction(MOVEI, 3, 1, 0, 20)).has(3, 5);
    }

    /** "if I is 1 then I, X, Y of the word at E tell it anew": OP and A of that word do not. */
    private static void toldAnew() {
        new Bench("OP and A on the way").put(20, Bench.instruction(XCT, 15, 0, 0, 5)).put(5, 77)
                .doesWord(Bench.instruction(MOVE, 3, 1, 0, 20)).has(3, 77).has(15, 0);
        new Bench("X on the way").put(15, -1).put(20, Bench.instruction(0, 0, 0, 15, 0))
                .doesWord(Bench.instruction(MOVEI, 3, 1, 0, 20)).has(3, 0777777);
        new Bench("first X and second X").put(1, 2).put(2, 10).put(22, Bench.instruction(0, 0, 0, 2, 5))
                .doesWord(Bench.instruction(MOVEI, 3, 1, 1, 20)).has(3, 15);
    }

    private static Bench chain(String name) {
        Bench b = new Bench(name).put(300, Bench.instruction(0, 0, 0, 0, 0123456));
        for (int k = 1; k <= 9; k++) {
            b.put(300 + k, Bench.instruction(0, 0, 1, 0, 299 + k));
        }
        return b;
    }

    /** "and so on, at most 8 times"; "more than 8 in a row: FAULT" */
    private static void eightTimes() {
        chain("1 time").doesWord(Bench.instruction(MOVEI, 3, 1, 0, 300)).has(3, 0123456);
        chain("7 times").doesWord(Bench.instruction(MOVEI, 3, 1, 0, 306)).has(3, 0123456);
        chain("8 times").doesWord(Bench.instruction(MOVEI, 3, 1, 0, 307)).has(3, 0123456);
        chain("9 times").put(3, 6).faultsWord(Bench.instruction(MOVEI, 3, 1, 0, 308)).has(3, 6);
        chain("10 times").put(3, 6).faultsWord(Bench.instruction(MOVEI, 3, 1, 0, 309)).has(3, 6);
        new Bench("for ever").put(3, 6).put(20, Bench.instruction(0, 0, 1, 0, 20))
                .faultsWord(Bench.instruction(MOVEI, 3, 1, 0, 20)).has(3, 6);
        chain("again with each instruction").put(101, Bench.instruction(MOVEI, 4, 1, 0, 307))
                .put(100, Bench.instruction(MOVEI, 3, 1, 0, 307)).go(100, 2, true, 0).has(3, 0123456).has(4, 0123456);
    }

    /** "A word that is not there ... FAULT": a word on the way to E. */
    private static void chainToNoWord() {
        new Bench("by way of 4096").put(3, 6).faultsWord(Bench.instruction(MOVEI, 3, 1, 0, 4096)).has(3, 6);
        new Bench("by way of 777777").put(3, 6).faultsWord(Bench.instruction(MOVEI, 3, 1, 0, 0777777)).has(3, 6);
        new Bench("by way of 4096 at last").put(3, 6).put(20, Bench.instruction(0, 0, 1, 0, 4096))
                .faultsWord(Bench.instruction(MOVEI, 3, 1, 0, 20)).has(3, 6);
        new Bench("indexed to 4096").put(3, 6).put(1, 1).faultsWord(Bench.instruction(MOVEI, 3, 1, 1, 4095)).has(3, 6);
    }

    /** "the word at E": the last one there is, and E itself may lie beyond it. */
    private static void chainFromTheLastWord() {
        new Bench("by way of 4095").put(4095, 4096).doesWord(Bench.instruction(MOVEI, 3, 1, 0, 4095)).has(3, 4096);
        new Bench("to a word that is not there").put(4095, 4096).put(3, 6)
                .faultsWord(Bench.instruction(MOVE, 3, 1, 0, 4095)).has(3, 6);
    }

    /** "E as a word: 0,E": its highest bit is no sign. */
    private static void asAWord() {
        new Bench("E 377777").does(MOVEI, 3, 0377777).has(3, 131071);
        new Bench("E 400000").does(MOVEI, 3, 0400000).has(3, 131072);
        new Bench("E 777777").put(3, -1).does(MOVEI, 3, 0777777).has(3, 262143);
        new Bench("E 0").put(3, -1).does(MOVEI, 3, 0).has(3, 0);
    }

    private static Bench xcts(String name) {
        Bench b = new Bench(name).put(300, Bench.instruction(AOJ, 3, 0));
        for (int k = 1; k <= 10; k++) {
            b.put(300 + k, Bench.instruction(XCT, 15, 299 + k));
        }
        return b;
    }

    /** "the word at E is done as the instruction (at most 8 in a row)"; "more than 8 in a row: FAULT" */
    private static void eightXcts() {
        xcts("1 XCT").go(301, 1, true, 0).pc(302).count(1).has(3, 1);
        xcts("7 XCTs").go(307, 1, true, 0).pc(308).count(1).has(3, 1);
        xcts("8 XCTs").go(308, 1, true, 0).pc(309).count(1).has(3, 1);
        xcts("9 XCTs").go(309, 1, true, 2).pc(309).count(0).has(3, 0);
        xcts("10 XCTs").go(310, 1, true, 2).pc(310).count(0).has(3, 0);
        new Bench("XCT of itself").faults(XCT, 0, Bench.PLACE);
        xcts("8 XCTs, two times").put(309, Bench.instruction(XCT, 0, 307)).go(308, 2, true, 0).pc(310).count(2).has(3, 2);
        xcts("8 XCTs of a stop").put(300, 0).go(308, 5, true, 1).pc(309).count(1);
    }

    /** Each XCT finds its own E: neither limit takes from the other. */
    private static void xctsAndIndirections() {
        Bench b = chain("XCT by 8, of one by 8").put(300, 200);
        b.put(200, Bench.instruction(MOVEI, 3, 1, 0, 307)).doesWord(Bench.instruction(XCT, 0, 1, 0, 307)).has(3, 200);
        b.put(3, 6).put(200, Bench.instruction(MOVEI, 3, 1, 0, 308)).faultsWord(Bench.instruction(XCT, 0, 1, 0, 307))
                .has(3, 6);
        b.put(200, Bench.instruction(MOVEI, 3, 1)).faultsWord(Bench.instruction(XCT, 0, 1, 0, 308)).has(3, 6);
    }

    /** "A word that is not there (E 4096 or above, where it is needed ...)": XCT needs it. */
    private static void xctOfNoWord() {
        new Bench("XCT of the last word").put(4095, Bench.instruction(AOJ, 3, 0)).does(XCT, 0, 4095).next().has(3, 1);
        new Bench("XCT of 4096").faults(XCT, 0, 4096);
        new Bench("XCT of an XCT of 4096").put(20, Bench.instruction(XCT, 0, 4096)).faults(XCT, 0, 20);
        new Bench("XCT of what faults").put(20, Bench.instruction(MOVE, 3, 4096)).put(3, 6).faults(XCT, 0, 20).has(3, 6);
    }

    /** "PC is 1 more before an instruction is done; 0,PC is that." */
    private static void pcBeforeItIsDone() {
        new Bench("JSP at the first word").put(0, Bench.instruction(JSP, 3, 50)).go(0, 1, true, 0).pc(50).has(3, 1);
        new Bench("JSP at the last word").put(4095, Bench.instruction(JSP, 3, 50)).put(3, -1).go(4095, 1, true, 0)
                .pc(50).has(3, 4096);
        new Bench("XCT of a JSP").put(20, Bench.instruction(JSP, 3, 50)).does(XCT, 0, 20).pc(50).has(3, Bench.PLACE + 1);
        new Bench("XCT of a skip").put(20, Bench.instruction(0304, 0, 0)).does(XCT, 0, 20).pc(Bench.PLACE + 2);
        new Bench("skip at the last but one").put(4094, Bench.instruction(0304, 0, 0)).go(4094, 1, true, 0).pc(4096);
    }

    /** "A word that is not there (... or PC) ... FAULT: nothing of it is done (PC is that of it)." */
    private static void pcOfNoWord() {
        Bench last = new Bench("behind the last word").put(4095, Bench.instruction(AOJ, 3, 0));
        last.go(4095, 1, true, 0).pc(4096).count(1).has(3, 1);
        last.go(4095, 2, true, 2).pc(4096).count(1).has(3, 2);
        last.go(4095, 500, true, 2).pc(4096).count(1).has(3, 3);
        Bench skip = new Bench("skip behind the last word").put(4095, Bench.instruction(0304, 0, 0));
        skip.go(4095, 1, true, 0).pc(4097).count(1).go(4095, 2, true, 2).pc(4097).count(1);
        Bench jump = new Bench("JRST 777777").put(20, Bench.instruction(0254, 0, 0777777));
        jump.go(20, 1, true, 0).pc(0777777).count(1).go(20, 2, true, 2).pc(0777777).count(1);
        Bench to = new Bench("JRST to the last word").put(20, Bench.instruction(0254, 0, 4095));
        to.go(20, 2, true, 1).pc(4096).count(2);
        Bench back = new Bench("POPJ to 4096").put(3, 30).put(30, 4096).put(20, Bench.instruction(0263, 3, 0));
        back.go(20, 2, true, 2).pc(4096).count(1).has(3, Bench.word(-1, 29));
    }
}
