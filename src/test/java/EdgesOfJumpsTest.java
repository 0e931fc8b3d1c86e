/** Boundary cases of 250 to 265: exchanges, blocks, jumps and stacks. */
public final class EdgesOfJumpsTest {
    private static final int EXCH = 0250;
    private static final int BLT = 0251;
    private static final int AOBJP = 0252;
    private static final int AOBJN = 0253;
    private static final int JFCL = 0255;
    private static final int PUSHJ = 0260;
    private static final int PUSH = 0261;
    private static final int POP = 0262;
    private static final int POPJ = 0263;
    private static final int JSR = 0264;
    private static final int JSP = 0265;
    private static final int NEXT = Bench.PLACE + 1;

    public static void main(String[] args) {
        exchangeAtTheEnd();
        oneWordAtLeast();
        lastWordIsE();
        oneByOne();
        fromAndToAsAtFirst();
        acStays();
        blockOfNoWord();
        halvesByThemselves();
        notBelowZero();
        bitEightOfA();
        pushAtTheEnds();
        pushAsItWasBefore();
        pushedOntoItself();
        pushOfNoWord();
        popAtTheEnds();
        popIntoItself();
        popOfNoWord();
        popjTakesTheRightHalf();
        jsrAtTheEnd();
        jspAnywhere();
        Bench.finish();
    }

    /** "250 EXCH: AC and C(E)" */
    private static void exchangeAtTheEnd() {
        new Bench("EXCH with 4095").put(3, 5).put(4095, 6).does(EXCH, 3, 4095).has(3, 6).has(4095, 5);
        new Bench("EXCH with itself").put(3, 5).does(EXCH, 3, 3).has(3, 5);
        new Bench("EXCH with 4096").put(3, 5).faults(EXCH, 3, 4096).has(3, 5);
    }

    private static Bench block(String name, long from, long to) {
        Bench b = new Bench(name).put(3, Bench.word(from, to));
        for (int k = 0; k < 4; k++) {
            b.put(200 + k, 11 + k).put(300 + k, -1);
        }
        return b;
    }

    /** "(that is the last; one at least)" */
    private static void oneWordAtLeast() {
        block("to is E", 200, 300).does(BLT, 3, 300).has(299, 0).has(300, 11).has(301, -1);
        block("to is above E", 200, 301).does(BLT, 3, 300).has(300, -1).has(301, 11).has(302, -1);
        block("to is far above E", 200, 301).does(BLT, 3, 0).has(0, 0).has(301, 11).has(302, -1);
        block("to is 4095, E is 0", 200, 4095).does(BLT, 3, 0).has(4095, 11).has(0, 0);
    }

    /** "till to was E (that is the last ...)" */
    private static void lastWordIsE() {
        block("two words", 200, 300).does(BLT, 3, 301).next().has(300, 11).has(301, 12).has(302, -1);
        block("to the last word", 200, 4094).does(BLT, 3, 4095).has(4094, 11).has(4095, 12).has(0, 0);
        block("to AC 0", 200, 0).does(BLT, 3, 1).has(0, 11).has(1, 12).has(2, 0);
        block("from the last word", 4095, 300).put(4095, 7).does(BLT, 3, 300).has(300, 7).has(301, -1);
        block("from the last two", 4094, 300).put(4095, 7).does(BLT, 3, 301).has(300, 0).has(301, 7).has(302, -1);
    }

    /** "word to gets word from, both 1 more ... one by one" */
    private static void oneByOne() {
        block("upwards over itself", 200, 201).does(BLT, 3, 203).has(200, 11).has(201, 11).has(202, 11).has(203, 11);
        block("downwards over itself", 201, 200).does(BLT, 3, 202).has(200, 12).has(201, 13).has(202, 14).has(203, 14);
        block("onto itself", 200, 200).does(BLT, 3, 203).has(200, 11).has(203, 14);
        new Bench("through all words").put(0, 5).put(3, 1).does(BLT, 3, 4095).has(1, 5).has(3, 5).has(4095, 5)
                .has(Bench.PLACE, 5);
    }

    /** "from and to as AC had them at first" */
    private static void fromAndToAsAtFirst() {
        block("over its own AC", 200, 2).does(BLT, 3, 5).has(2, 11).has(3, 12).has(4, 13).has(5, 14).has(6, 0);
        block("over its own instruction", 200, Bench.PLACE).does(BLT, 3, Bench.PLACE + 3).next()
                .has(Bench.PLACE, 11).has(Bench.PLACE + 3, 14);
        block("from its own AC", 2, 300).put(2, 8).put(4, 9).does(BLT, 3, 302)
                .has(300, 8).has(301, Bench.word(2, 300)).has(302, 9);
    }

    /** "AC itself stays" */
    private static void acStays() {
        block("AC of one word", 200, 300).does(BLT, 3, 300).has(3, Bench.word(200, 300));
        block("AC of four", 200, 300).does(BLT, 3, 303).has(3, Bench.word(200, 300));
        block("to above E", 200, 300).does(BLT, 3, 1).has(3, Bench.word(200, 300));
    }

    /** "A word that is not there ... FAULT: nothing of it is done": not the words before it, either. */
    private static void blockOfNoWord() {
        block("to 4096 at last", 200, 4094).faults(BLT, 3, 4096).has(4094, 0).has(4095, 0);
        block("from 4096 at last", 4095, 300).put(4095, 7).faults(BLT, 3, 301).has(300, -1).has(301, -1);
        block("to 4096 at first", 200, 4096).faults(BLT, 3, 4096).has(3, Bench.word(200, 4096));
        block("to 4096, above E", 200, 4096).faults(BLT, 3, 300);
        block("from 4096 at first", 4096, 300).faults(BLT, 3, 300).has(300, -1);
        block("from and to of ones", 0777777, 0777777).faults(BLT, 3, 0).has(0, 0).has(3, -1);
        block("E of ones", 200, 300).faults(BLT, 3, 0777777).has(300, -1);
    }

    /** "252 AOBJP: both halves of AC are 1 more (each by itself)" */
    private static void halvesByThemselves() {
        both("right half full", Bench.word(1, 0777777), Bench.word(2, 0));
        both("left half full", Bench.word(0777777, 1), Bench.word(0, 2));
        both("both full", -1, 0);
        both("left half at its middle", Bench.word(0377777, 5), Bench.word(0400000, 6));
        both("right half at its middle", Bench.word(5, 0377777), Bench.word(6, 0400000));
        both("of 0", 0, Bench.word(1, 1));
        both("greatest", Bench.GREATEST, Bench.word(0400000, 0));
    }

    private static void both(String name, long v, long want) {
        new Bench(name).put(3, v).does(AOBJP, 3, 300).pc(want < 0 ? NEXT : 300).has(3, want).overflow(0);
        new Bench(name).put(3, v).does(AOBJN, 3, 300).pc(want < 0 ? 300 : NEXT).has(3, want).overflow(0);
    }

    /** "PC is E if AC is not below 0; 253 AOBJN: if it is": by the AC that was made, 0 among them. */
    private static void notBelowZero() {
        new Bench("AOBJP becomes 0").put(3, -1).does(AOBJP, 3, 300).pc(300);
        new Bench("AOBJN becomes 0").put(3, -1).does(AOBJN, 3, 300).next();
        new Bench("AOBJP becomes 0,1").put(3, Bench.word(-1, 0)).does(AOBJP, 3, 300).pc(300);
        new Bench("AOBJN becomes 0,1").put(3, Bench.word(-1, 0)).does(AOBJN, 3, 300).next();
        new Bench("AOBJP becomes -1,0").put(3, Bench.word(-2, -1)).does(AOBJP, 3, 300).next();
        new Bench("AOBJN becomes -1,0").put(3, Bench.word(-2, -1)).does(AOBJN, 3, 300).pc(300);
        new Bench("AOBJP becomes -1").put(3, Bench.word(-2, -2)).does(AOBJP, 3, 300).next().has(3, -1);
        new Bench("AOBJN becomes -1").put(3, Bench.word(-2, -2)).does(AOBJN, 3, 300).pc(300).has(3, -1);
        new Bench("AOBJP to 4096").does(AOBJP, 3, 4096).pc(4096).count(1).has(3, Bench.word(1, 1));
    }

    /** "255 JFCL: if A has bit 8 and OVERFLOW is 1: it becomes 0 and PC is E." */
    private static void bitEightOfA() {
        for (int a : new int[] {0, 1, 4, 7}) {
            overflowing("JFCL " + a).doesNext(JFCL, a, 300).next().overflow(1);
            new Bench("JFCL " + a + ", OVERFLOW 0").does(JFCL, a, 300).next().overflow(0);
        }
        for (int a : new int[] {8, 9, 12, 15}) {
            overflowing("JFCL " + a).doesNext(JFCL, a, 300).pc(300).overflow(0);
            new Bench("JFCL " + a + ", OVERFLOW 0").does(JFCL, a, 300).next().overflow(0);
        }
        overflowing("JFCL to 4096").doesNext(JFCL, 8, 4096).pc(4096).overflow(0).count(1);
        overflowing("JFCL, fresh").does(JFCL, 8, 300).next().overflow(0);
    }

    private static Bench overflowing(String name) {
        return new Bench(name).put(20, Bench.LEAST).does(0210, 3, 20).overflow(1);
    }

    /** "260 PUSHJ: AC halves 1 more each, the word at its right half becomes 0,PC"; "261 PUSH: likewise" */
    private static void pushAtTheEnds() {
        new Bench("PUSH to 4095").put(3, 4094).put(20, 7).does(PUSH, 3, 20).has(3, Bench.word(1, 4095)).has(4095, 7);
        new Bench("PUSH to 0").put(3, Bench.word(5, 0777777)).put(20, 7).does(PUSH, 3, 20).has(3, Bench.word(6, 0)).has(0, 7);
        new Bench("PUSH, left half full").put(3, Bench.word(0777777, 30)).put(20, 7).does(PUSH, 3, 20).has(3, 31).has(31, 7)
                .overflow(0);
        new Bench("PUSHJ to 4095").put(3, 4094).does(PUSHJ, 3, 300).pc(300).has(3, Bench.word(1, 4095)).has(4095, NEXT);
        new Bench("PUSHJ to 0").put(3, -1).does(PUSHJ, 3, 300).pc(300).has(3, 0).has(0, NEXT).overflow(0);
        new Bench("PUSHJ, E 4096").put(3, 30).does(PUSHJ, 3, 4096).pc(4096).count(1).has(31, NEXT);
        new Bench("PUSHJ from the last word").put(3, 30).put(4095, Bench.instruction(PUSHJ, 3, 300))
                .go(4095, 1, true, 0).pc(300).has(31, 4096);
    }

    /** "C(E) as it was before" */
    private static void pushAsItWasBefore() {
        new Bench("PUSH of its AC").put(3, Bench.word(1, 30)).does(PUSH, 3, 3).has(31, Bench.word(1, 30))
                .has(3, Bench.word(2, 31));
        new Bench("PUSH of the word it goes to").put(3, 30).put(31, 7).does(PUSH, 3, 31).has(31, 7);
        new Bench("PUSH of its AC onto its AC").put(3, Bench.word(5, 2)).does(PUSH, 3, 3).has(3, Bench.word(5, 2));
        new Bench("E by its own AC").put(3, 30).put(30, 7).put(31, 8).doesWord(Bench.instruction(PUSH, 3, 0, 3, 0))
                .has(31, 7);
    }

    /** The halves are 1 more before the word is written, so what is pushed stays in AC. */
    private static void pushedOntoItself() {
        new Bench("PUSH onto its AC").put(3, 2).put(20, 7).does(PUSH, 3, 20).has(3, 7);
        new Bench("PUSHJ onto its AC").put(3, 2).does(PUSHJ, 3, 300).pc(300).has(3, NEXT);
    }

    /** "A word that is not there": the one at the right half, or E of PUSH. */
    private static void pushOfNoWord() {
        new Bench("PUSH to 4096").put(3, 4095).put(20, 7).faults(PUSH, 3, 20).has(3, 4095);
        new Bench("PUSH to 777777").put(3, 0777776).put(20, 7).faults(PUSH, 3, 20).has(3, 0777776);
        new Bench("PUSH of 4096").put(3, 30).faults(PUSH, 3, 4096).has(3, 30).has(31, 0);
        new Bench("PUSH of 4095").put(3, 30).put(4095, 7).does(PUSH, 3, 4095).has(31, 7);
        new Bench("PUSHJ to 4096").put(3, 4095).faults(PUSHJ, 3, 300).has(3, 4095);
    }

    /** "262 POP: the word at AC's right half goes to E, halves of AC 1 less each before that" */
    private static void popAtTheEnds() {
        new Bench("POP from 4095").put(3, 4095).put(4095, 7).does(POP, 3, 20).has(20, 7).has(3, Bench.word(-1, 4094));
        new Bench("POP from 0").put(3, Bench.word(5, 0)).put(0, 7).does(POP, 3, 20).has(20, 7)
                .has(3, Bench.word(4, 0777777));
        new Bench("POP from 0, both halves empty").put(0, 7).does(POP, 3, 20).has(20, 7).has(3, -1).overflow(0);
        new Bench("POP, left half at its middle").put(3, Bench.word(0400000, 30)).put(30, 7).does(POP, 3, 20)
                .has(20, 7).has(3, Bench.word(0377777, 29)).overflow(0);
        new Bench("POP to 4095").put(3, 30).put(30, 7).does(POP, 3, 4095).has(4095, 7);
    }

    /** "halves of AC 1 less each before that": so a word that goes to AC itself stays there. */
    private static void popIntoItself() {
        new Bench("POP into its AC").put(3, 30).put(30, 5000).does(POP, 3, 3).has(3, 5000).has(30, 5000);
        new Bench("POP of AC from AC").put(3, Bench.word(9, 3)).does(POP, 3, 20).has(20, Bench.word(9, 3))
                .has(3, Bench.word(8, 2));
        new Bench("POP to where it came from").put(3, 30).put(30, 7).does(POP, 3, 30).has(30, 7)
                .has(3, Bench.word(-1, 29));
        new Bench("E by its own AC").put(3, 30).put(30, 7).doesWord(Bench.instruction(POP, 3, 0, 3, 5)).has(35, 7)
                .has(34, 0);
    }

    /** "A word that is not there": the one at the right half, or E of POP. */
    private static void popOfNoWord() {
        new Bench("POP from 4096").put(3, 4096).faults(POP, 3, 20).has(3, 4096).has(20, 0);
        new Bench("POP from 777777").put(3, -1).faults(POP, 3, 20).has(3, -1).has(20, 0);
        new Bench("POP to 4096").put(3, 30).put(30, 7).faults(POP, 3, 4096).has(3, 30);
        new Bench("POPJ from 4096").put(3, 4096).faults(POPJ, 3, 20).has(3, 4096);
    }

    /** "263 POPJ: PC is the right half of that word, halves 1 less" */
    private static void popjTakesTheRightHalf() {
        new Bench("POPJ of a full left half").put(3, 30).put(30, Bench.word(0777777, 40)).does(POPJ, 3, 20).pc(40)
                .has(3, Bench.word(-1, 29)).has(20, 0);
        new Bench("POPJ to 777777").put(3, 30).put(30, -1).does(POPJ, 3, 20).pc(0777777).count(1);
        new Bench("POPJ from 4095").put(3, 4095).put(4095, 40).does(POPJ, 3, 20).pc(40).has(3, Bench.word(-1, 4094));
        new Bench("POPJ from 0").put(0, 40).does(POPJ, 3, 20).pc(40).has(3, -1);
        new Bench("POPJ from its AC").put(3, Bench.word(6, 3)).does(POPJ, 3, 20).pc(3).has(3, Bench.word(5, 2));
        new Bench("POPJ, E 4096").put(3, 30).put(30, 40).does(POPJ, 3, 4096).pc(40);
    }

    /** "264 JSR: E gets 0,PC, PC is E + 1" */
    private static void jsrAtTheEnd() {
        new Bench("JSR to 4094").does(JSR, 0, 4094).pc(4095).has(4094, NEXT);
        new Bench("JSR to 4095").does(JSR, 0, 4095).pc(4096).count(1).has(4095, NEXT);
        new Bench("JSR to 4096").faults(JSR, 0, 4096);
        new Bench("JSR to 777777").faults(JSR, 0, 0777777).has(0, 0);
        new Bench("JSR from the last word").put(4095, Bench.instruction(JSR, 0, 20)).go(4095, 1, true, 0)
                .pc(21).has(20, 4096);
    }

    /** "265 JSP: AC is 0,PC, PC is E": E is told before AC changes, and need not be there. */
    private static void jspAnywhere() {
        new Bench("JSP to 777777").put(3, -1).does(JSP, 3, 0777777).pc(0777777).count(1).has(3, NEXT);
        new Bench("JSP by its own AC").put(3, 30).doesWord(Bench.instruction(JSP, 3, 0, 3, 5)).pc(35).has(3, NEXT);
    }
}
