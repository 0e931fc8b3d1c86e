/** Promise 4: how E is found, by index and by way of other words, and how XCT goes on. */
public final class AddressTest {
    private static final int MOVE = 0200;
    private static final int MOVEI = 0201;
    private static final int XCT = 0256;

    public static void main(String[] args) {
        index();
        indirect();
        manyIndirections();
        executed();
        manyXcts();
        Bench.finish();
    }

    private static Bench one(Bench b, long instruction, int want) {
        return b.put(Bench.PLACE, instruction).go(Bench.PLACE, 1, true, want);
    }

    private static void index() {
        Bench b = new Bench("index").put(1, Bench.word(7, 200)).put(2, -1).put(0, 50);
        one(b, Bench.instruction(MOVEI, 3, 0, 1, 5), 0).has(3, 205);
        one(b, Bench.instruction(MOVEI, 3, 0, 2, 5), 0).has(3, 4);
        one(b, Bench.instruction(MOVEI, 3, 0, 2, 0), 0).has(3, 262143);
        one(b, Bench.instruction(MOVEI, 3, 0, 0, 5), 0).has(3, 5);
        one(b.put(15, 9), Bench.instruction(MOVEI, 3, 0, 15, 5), 0).has(3, 14);
        one(b.put(3, 6), Bench.instruction(MOVEI, 3, 0, 3, 5), 0).has(3, 11);
    }

    private static void indirect() {
        Bench b = new Bench("indirect").put(1, 200).put(2, 10);
        b.put(205, Bench.instruction(0777, 15, 0, 2, 300)).put(310, 42);
        one(b, Bench.instruction(MOVE, 3, 1, 1, 5), 0).has(3, 42);
        b.put(206, Bench.instruction(0, 0, 1, 2, 195));
        one(b, Bench.instruction(MOVE, 4, 1, 0, 206), 0).has(4, 42);
        b.put(7, 310);
        one(b, Bench.instruction(MOVE, 5, 1, 0, 7), 0).has(5, 42);
        one(b, Bench.instruction(MOVEI, 6, 1, 0, 4096), 2).pc(Bench.PLACE).count(0).has(6, 0);
        b.put(4095, 5000);
        one(b, Bench.instruction(MOVEI, 6, 1, 0, 4095), 0).has(6, 5000);
        b.put(207, Bench.instruction(0, 0, 1, 0, 4096));
        one(b, Bench.instruction(MOVEI, 6, 1, 0, 207), 2).pc(Bench.PLACE).count(0).has(6, 5000);
    }

    private static void manyIndirections() {
        Bench b = new Bench("indirections").put(300, 42);
        for (int k = 1; k <= 9; k++) {
            b.put(300 + k, Bench.instruction(0, 0, k == 1 ? 0 : 1, 0, 299 + k));
        }
        one(b, Bench.instruction(MOVEI, 3, 1, 0, 301), 0).has(3, 300);
        one(b.put(3, 0), Bench.instruction(MOVEI, 3, 1, 0, 308), 0).has(3, 300);
        one(b.put(3, 0), Bench.instruction(MOVEI, 3, 1, 0, 309), 2).pc(Bench.PLACE).count(0).has(3, 0);
        b.put(400, Bench.instruction(0, 0, 1, 0, 400));
        one(b, Bench.instruction(MOVEI, 3, 1, 0, 400), 2).pc(Bench.PLACE).count(0).has(3, 0);
        one(b, Bench.instruction(XCT, 3, 1, 0, 309), 2).pc(Bench.PLACE).count(0);
        one(b, Bench.instruction(0, 0, 1, 0, 308), 1).pc(Bench.PLACE + 1).count(1);
        one(b, Bench.instruction(0, 0, 1, 0, 309), 2).pc(Bench.PLACE).count(0);
    }

    private static void executed() {
        Bench b = new Bench("XCT").put(200, Bench.instruction(MOVEI, 3, 77)).does(XCT, 5, 200);
        b.next().count(1).has(3, 77).has(5, 0);
        b.put(200, Bench.instruction(0304, 3, 0)).does(XCT, 0, 200).pc(Bench.PLACE + 2).count(1);
        b.put(200, Bench.instruction(0254, 0, 300)).does(XCT, 0, 200).pc(300).count(1);
        b.put(200, Bench.instruction(0265, 7, 300)).does(XCT, 0, 200).pc(300).has(7, Bench.PLACE + 1);
        b.put(200, 0).stops(XCT, 0, 200);
        b.put(200, Bench.instruction(MOVE, 3, 4096)).faults(XCT, 0, 200).has(3, 77);
        b.faults(XCT, 0, 4096).faults(XCT, 0, 262143);
        b.put(1, 200).put(200, Bench.instruction(MOVEI, 3, 0, 1, 1));
        one(b, Bench.instruction(XCT, 0, 0, 1, 0), 0).has(3, 201);
    }

    private static void manyXcts() {
        Bench b = new Bench("XCTs").put(300, Bench.instruction(0340, 3, 0));
        for (int k = 1; k <= 9; k++) {
            b.put(300 + k, Bench.instruction(XCT, 0, 299 + k));
        }
        b.go(301, 1, true, 0).pc(302).count(1).has(3, 1);
        b.go(308, 1, true, 0).pc(309).count(1).has(3, 2);
        b.go(309, 1, true, 2).pc(309).count(0).has(3, 2);
        b.faults(XCT, 0, Bench.PLACE);
    }
}
