/** Promise 4: 250 to 265, but for XCT: exchanges, blocks, jumps and stacks. */
public final class JumpAndStackTest {
    private static final int EXCH = 0250;
    private static final int BLT = 0251;
    private static final int AOBJP = 0252;
    private static final int AOBJN = 0253;
    private static final int JRST = 0254;
    private static final int JFCL = 0255;
    private static final int PUSHJ = 0260;
    private static final int PUSH = 0261;
    private static final int POP = 0262;
    private static final int POPJ = 0263;
    private static final int JSR = 0264;
    private static final int JSP = 0265;
    private static final int NEXT = Bench.PLACE + 1;

    public static void main(String[] args) {
        exchange();
        block();
        blockFaults();
        bothHalves();
        plainJumps();
        jumpOnOverflow();
        push();
        pushFaults();
        pop();
        popFaults();
        Bench.finish();
    }

    private static void exchange() {
        new Bench("EXCH").put(3, -5).put(20, 7).does(EXCH, 3, 20).next().has(3, 7).has(20, -5);
        new Bench("EXCH with itself").put(3, -5).does(EXCH, 3, 3).has(3, -5);
        new Bench("EXCH of AC 0").put(0, 1).put(20, 7).does(EXCH, 0, 20).has(0, 7).has(20, 1);
        new Bench("EXCH far away").put(3, -5).faults(EXCH, 3, 4096).has(3, -5);
    }

    private static Bench blockOf(String name, long from, long to) {
        Bench b = new Bench(name).put(3, Bench.word(from, to));
        for (int k = 0; k < 5; k++) {
            b.put(200 + k, 11 + k).put(300 + k, -1);
        }
        return b;
    }

    private static void block() {
        blockOf("BLT", 200, 300).does(BLT, 3, 302).next().has(300, 11).has(301, 12).has(302, 13).has(303, -1)
                .has(299, 0).has(200, 11).has(3, Bench.word(200, 300));
        blockOf("BLT of one", 200, 300).does(BLT, 3, 300).has(300, 11).has(301, -1);
        blockOf("BLT with to above E", 200, 300).does(BLT, 3, 299).has(300, 11).has(301, -1).has(299, 0);
        blockOf("BLT with to far above E", 201, 301).does(BLT, 3, 0).has(301, 12).has(300, -1).has(302, -1).has(0, 0);
        blockOf("BLT over itself", 200, 201).does(BLT, 3, 204).has(200, 11).has(201, 11).has(204, 11).has(205, 0);
        blockOf("BLT downwards", 201, 200).does(BLT, 3, 202).has(200, 12).has(201, 13).has(202, 14).has(203, 14);
        blockOf("BLT over its AC", 200, 2).does(BLT, 3, 4).has(2, 11).has(3, 12).has(4, 13).has(5, 0);
        blockOf("BLT to the end", 200, 4093).does(BLT, 3, 4095).has(4093, 11).has(4095, 13);
        new Bench("BLT from the end").put(4095, 6).put(3, Bench.word(4094, 300)).does(BLT, 3, 301).has(301, 6);
        new Bench("BLT of all").put(0, 5).put(3, Bench.word(0, 1)).does(BLT, 3, 4095).has(4095, 5).has(3, 5);
    }

    private static void blockFaults() {
        blockOf("BLT beyond the end", 200, 4094).faults(BLT, 3, 4096).has(4094, 0).has(3, Bench.word(200, 4094));
        blockOf("BLT from beyond the end", 4094, 300).faults(BLT, 3, 302).has(300, -1).has(301, -1);
        blockOf("BLT to nowhere", 200, 4096).faults(BLT, 3, 300).has(3, Bench.word(200, 4096));
        blockOf("BLT from nowhere", 262143, 300).faults(BLT, 3, 300).has(300, -1);
        blockOf("BLT till nowhere", 200, 300).faults(BLT, 3, 262143).has(300, -1);
    }

    private static void bothHalves() {
        new Bench("AOBJP").put(3, Bench.word(1, 5)).does(AOBJP, 3, 300).pc(300).has(3, Bench.word(2, 6));
        new Bench("AOBJP below").put(3, Bench.word(-2, 5)).does(AOBJP, 3, 300).next().has(3, Bench.word(-1, 6));
        new Bench("AOBJP to 0").put(3, -1).does(AOBJP, 3, 300).pc(300).has(3, 0);
        new Bench("AOBJN").put(3, Bench.word(-2, 5)).does(AOBJN, 3, 300).pc(300).has(3, Bench.word(-1, 6));
        new Bench("AOBJN at its end").put(3, Bench.word(-1, 5)).does(AOBJN, 3, 300).next().has(3, Bench.word(0, 6));
        new Bench("no carry").put(3, Bench.word(1, 0777777)).does(AOBJP, 3, 300).pc(300).has(3, Bench.word(2, 0));
        new Bench("into the sign").put(3, Bench.word(0377777, 0)).does(AOBJN, 3, 300).pc(300).overflow(0)
                .has(3, Bench.word(0400000, 1));
        new Bench("AOBJN far away").put(3, Bench.word(-2, 5)).does(AOBJN, 3, 4096).pc(4096).has(3, Bench.word(-1, 6));
    }

    private static void plainJumps() {
        new Bench("JRST").put(3, 6).does(JRST, 3, 300).pc(300).has(3, 6).has(300, 0);
        new Bench("JRST far away").does(JRST, 0, 262143).pc(262143).count(1);
        new Bench("JSR").put(3, 6).does(JSR, 3, 300).pc(301).has(300, NEXT).has(3, 6);
        new Bench("JSR to the end").does(JSR, 0, 4095).pc(4096).has(4095, NEXT);
        new Bench("JSR far away").faults(JSR, 0, 4096);
        new Bench("JSP").put(3, -6).does(JSP, 3, 300).pc(300).has(3, NEXT).has(300, 0);
        new Bench("JSP far away").does(JSP, 3, 4096).pc(4096).has(3, NEXT);
        new Bench("JSP by its own index").put(3, 50).put(Bench.PLACE, Bench.instruction(JSP, 3, 0, 3, 7))
                .go(Bench.PLACE, 1, true, 0).pc(57).has(3, NEXT);
    }

    private static void jumpOnOverflow() {
        for (int a = 0; a < 16; a++) {
            boolean jumps = a >= 8;
            Bench b = new Bench("JFCL " + a).put(3, Bench.LEAST).does(0210, 4, 3).overflow(1);
            b.doesNext(JFCL, a, 300).pc(jumps ? 300 : NEXT).overflow(jumps ? 0 : 1);
            new Bench("JFCL " + a + " without").does(JFCL, a, 300).next().overflow(0);
        }
    }

    private static void push() {
        new Bench("PUSH").put(3, Bench.word(-5, 200)).put(20, 77).does(PUSH, 3, 20).next()
                .has(3, Bench.word(-4, 201)).has(201, 77).has(20, 77).has(200, 0);
        new Bench("PUSH of its pointer").put(3, Bench.word(1, 200)).does(PUSH, 3, 3)
                .has(3, Bench.word(2, 201)).has(201, Bench.word(1, 200));
        new Bench("PUSH onto its pointer").put(3, Bench.word(1, 2)).put(20, 77).does(PUSH, 3, 20).has(3, 77);
        new Bench("PUSH from its place").put(3, Bench.word(1, 19)).put(20, 77).does(PUSH, 3, 20).has(20, 77);
        new Bench("PUSH round the halves").put(3, -1).put(20, 77).does(PUSH, 3, 20).has(3, 0).has(0, 77).overflow(0);
        new Bench("PUSH without carry").put(3, Bench.word(4, 0777777)).put(20, 77).does(PUSH, 3, 20)
                .has(3, Bench.word(5, 0)).has(0, 77);
        new Bench("PUSHJ").put(3, Bench.word(-5, 200)).does(PUSHJ, 3, 300).pc(300)
                .has(3, Bench.word(-4, 201)).has(201, NEXT);
        new Bench("PUSHJ onto its pointer").put(3, Bench.word(1, 2)).does(PUSHJ, 3, 300).pc(300).has(3, NEXT);
        new Bench("PUSHJ far away").put(3, 200).does(PUSHJ, 3, 4096).pc(4096).has(201, NEXT);
    }

    private static void pushFaults() {
        new Bench("PUSH beyond the end").put(3, 4095).put(20, 77).faults(PUSH, 3, 20).has(3, 4095);
        new Bench("PUSH to the end").put(3, 4094).put(20, 77).does(PUSH, 3, 20).has(4095, 77);
        new Bench("PUSH from nowhere").put(3, 200).faults(PUSH, 3, 4096).has(3, 200).has(201, 0);
        new Bench("PUSHJ beyond the end").put(3, 4095).faults(PUSHJ, 3, 300).has(3, 4095);
    }

    private static void pop() {
        new Bench("POP").put(3, Bench.word(5, 200)).put(200, 77).does(POP, 3, 20).next()
                .has(3, Bench.word(4, 199)).has(20, 77).has(200, 77);
        new Bench("POP into its pointer").put(3, 200).put(200, 5000).does(POP, 3, 3).has(3, 5000);
        new Bench("POP of its pointer").put(3, Bench.word(9, 3)).does(POP, 3, 20).has(20, Bench.word(9, 3))
                .has(3, Bench.word(8, 2));
        new Bench("POP round the halves").put(3, 0).put(0, 77).does(POP, 3, 20).has(3, -1).has(20, 77).overflow(0);
        new Bench("POP without borrow").put(3, Bench.word(4, 0)).put(0, 6).does(POP, 3, 20)
                .has(3, Bench.word(3, 0777777)).has(20, 6);
        new Bench("POPJ").put(3, Bench.word(5, 200)).put(200, Bench.word(0123456, 300)).does(POPJ, 3, 20).pc(300)
                .has(3, Bench.word(4, 199)).has(20, 0);
        new Bench("POPJ does not need E").put(3, 200).put(200, 300).does(POPJ, 3, 4096).pc(300);
        new Bench("POPJ far away").put(3, 200).put(200, -1).does(POPJ, 3, 0).pc(262143).has(3, Bench.word(-1, 199));
    }

    private static void popFaults() {
        new Bench("POP from beyond the end").put(3, 4096).faults(POP, 3, 20).has(3, 4096).has(20, 0);
        new Bench("POP to nowhere").put(3, 200).put(200, 77).faults(POP, 3, 4096).has(3, 200);
        new Bench("POPJ from beyond the end").put(3, 4096).faults(POPJ, 3, 300).has(3, 4096);
    }
}
