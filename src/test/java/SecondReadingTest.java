import java.util.Random;

/**
 * TenMachine beside PlainMachine, the document's second reading: the same calls, told at random from
 * fixed seeds, answer the same. Addresses and words lie near the edges more often than not.
 */
public final class SecondReadingTest {
    private static final int PROGRAM = 0100;
    private static final int[] PLACES = {0, 1, 14, 15, 16, 17, 20, 0100, 0101, 0102, 4094, 4095, 4096, 0777776, 0777777};

    private final Random random;
    private final TenMachine machine = new TenMachine();
    private final PlainMachine plain = new PlainMachine();
    private final String name;

    private SecondReadingTest(String kind, int seed) {
        random = new Random(seed);
        name = kind + " " + seed;
    }

    public static void main(String[] args) {
        for (int seed = 0; seed < 4000; seed++) {
            new SecondReadingTest("program", seed).run(seed);
        }
        for (int op = 0; op <= 0777; op++) {
            new SecondReadingTest("OP in base 10:", op).eachWay(op);
        }
        for (int length = 1; length <= 12; length++) {
            new SecondReadingTest("chain", length).chains(length);
        }
        new SecondReadingTest("refusals", 0).refusals();
        Bench.finish();
    }

    /** A program of some instructions, gone through in pieces. */
    private void run(int seed) {
        for (int a = 0; a < 48; a++) {
            put(a, datum());
        }
        put(4094, datum());
        put(4095, datum());
        for (int k = 0; k < 24; k++) {
            put(PROGRAM + k, instruction(seed % 2 == 0 ? 0200 + random.nextInt(0500) : random.nextInt(01000)));
        }
        for (int k = 0; k < 12; k++) {
            go(PROGRAM + random.nextInt(24), random.nextInt(6), random.nextInt(3) == 0);
            sameLooks();
        }
        go(PROGRAM, random.nextInt(501), random.nextBoolean());
        sameLooks();
        sameWords();
    }

    /** One OP with many an A, E, AC and word at E. */
    private void eachWay(int op) {
        for (int k = 0; k < 36; k++) {
            int a = random.nextInt(4) == 0 ? random.nextInt(16) : random.nextBoolean() ? 0 : 15;
            int y = PLACES[random.nextInt(PLACES.length)];
            put(0, datum());
            put(15, datum());
            put(a, datum());
            put(y > 4095 ? 30 : y, datum());
            put(50, Bench.instruction(op, a, 0, 0, y));
            go(50, 1, random.nextBoolean());
            sameLooks();
            same(0);
            same(15);
            same(a);
            same(y > 4095 ? 30 : y);
        }
    }

    /** XCT of XCT, and a word found by way of others, some of them too long. */
    private void chains(int length) {
        put(200, Bench.instruction(0340, 3, 0));
        put(300, Bench.word(0, 7));
        for (int k = 1; k <= length; k++) {
            put(200 + k, Bench.instruction(0256, k, 199 + k));
            put(300 + k, Bench.instruction(0, k, 1, 0, 299 + k));
        }
        put(50, Bench.instruction(0201, 4, 1, 0, 300 + length));
        put(51, Bench.instruction(0, 4, 1, 0, 300 + length));
        put(52, Bench.instruction(0256, 4, 1, 0, 300 + length));
        for (int pc : new int[] {200 + length, 50, 51, 52}) {
            go(pc, 1, true);
            sameLooks();
            same(3);
            same(4);
        }
    }

    /** Arguments at the edges and beyond them, in every pair. */
    private void refusals() {
        put(4095, Bench.instruction(0340, 3, 0));
        for (int a : new int[] {Integer.MIN_VALUE, -1, 0, 1, 4095, 4096, Integer.MAX_VALUE}) {
            put(a, a);
            same(a);
            Bench.due(name + " look(" + a + ")", machine.look(a), plain.look(a));
            for (int n : new int[] {Integer.MIN_VALUE, -1, 0, 1, 500, 501, Integer.MAX_VALUE}) {
                go(a, n, n != 1);
                sameLooks();
            }
        }
    }

    private long datum() {
        switch (random.nextInt(8)) {
            case 0:
                return random.nextLong();
            case 1:
                return Bench.word(place(), place());
            case 2:
                return random.nextBoolean() ? Bench.LEAST + random.nextInt(2) : Bench.GREATEST - random.nextInt(2);
            case 3:
                return instruction(0200 + random.nextInt(0500));
            case 4:
                return Bench.word(random.nextInt(3) - 1, random.nextInt(3) - 1);
            case 5:
                return (1L << random.nextInt(36)) * (random.nextBoolean() ? 1 : -1);
            case 6:
                return place();
            default:
                return random.nextInt(9) - 4;
        }
    }

    private int place() {
        switch (random.nextInt(6)) {
            case 0:
                return PLACES[random.nextInt(PLACES.length)];
            case 1:
                return random.nextInt(16);
            case 2:
                return PROGRAM + random.nextInt(26);
            case 3:
                return random.nextInt(12) == 0 ? random.nextInt(1 << 18) : random.nextInt(300);
            default:
                return 16 + random.nextInt(32);
        }
    }

    private long instruction(int op) {
        int i = random.nextInt(6) == 0 ? 1 : 0;
        int x = random.nextInt(5) == 0 ? random.nextInt(16) : 0;
        return Bench.instruction(op, random.nextInt(16), i, x, place());
    }

    private void put(int a, long v) {
        Bench.due(name + " put(" + a + ", " + v + ")", machine.put(a, v), plain.put(a, v));
    }

    private void go(int pc, int n, boolean fresh) {
        Bench.due(name + " go(" + pc + ", " + n + ", " + fresh + ")", machine.go(pc, n, fresh), plain.go(pc, n, fresh));
    }

    private void same(int a) {
        Bench.due(name + " get(" + a + ")", machine.get(a), plain.get(a));
    }

    private void sameLooks() {
        for (int what = 0; what < 3; what++) {
            Bench.due(name + " look(" + what + ")", machine.look(what), plain.look(what));
        }
    }

    private void sameWords() {
        for (int a = 0; a < 0210; a++) {
            same(a);
        }
        for (int k = 0; k < 100; k++) {
            same(0210 + random.nextInt(4096 - 0210));
        }
        same(4094);
        same(4095);
    }
}
