import java.util.Random;

/**
 * Words at random, done as instructions, from a seed that stays the same. No call throws, every
 * word stays one of 36 bits, and n instructions at once are the same as one by one.
 */
public final class AnyWordsTest {
    private static final int FILLED = 150;

    public static void main(String[] args) {
        for (int seed = 0; seed < 3000; seed++) {
            together(seed);
        }
        anyArguments();
        Bench.finish();
    }

    private static TenMachine filled(int seed) {
        Random random = new Random(seed);
        TenMachine machine = new TenMachine();
        for (int k = 0; k < FILLED; k++) {
            int a = k < 16 ? k : random.nextInt(128);
            machine.put(a, k < 16 ? datum(random) : instruction(random));
        }
        return machine;
    }

    private static long datum(Random random) {
        switch (random.nextInt(4)) {
            case 0:
                return random.nextLong();
            case 1:
                return Bench.word(random.nextInt(128), random.nextInt(128));
            case 2:
                return random.nextBoolean() ? Bench.LEAST : Bench.GREATEST;
            default:
                return random.nextInt(5) - 2;
        }
    }

    private static long instruction(Random random) {
        int op = random.nextInt(8) == 0 ? random.nextInt(512) : 0200 + random.nextInt(0500);
        int y = random.nextInt(8) == 0 ? random.nextInt(1 << 18) : random.nextInt(128);
        int x = random.nextInt(4) == 0 ? random.nextInt(16) : 0;
        return Bench.instruction(op, random.nextInt(16), random.nextInt(6) == 0 ? 1 : 0, x, y);
    }

    private static void together(int seed) {
        TenMachine whole = filled(seed);
        TenMachine single = filled(seed);
        int pc = 16 + seed % 100;
        int n = seed % 101;
        int end = whole.go(pc, n, true);
        int did = 0;
        int endOfOne = single.go(pc, 0, true);
        while (endOfOne == 0 && did < n) {
            int at = single.look(0);
            // A go can't begin at a word that is not there; at once it is a fault.
            endOfOne = at > 4095 ? 2 : single.go(at, 1, false);
            did += endOfOne == 2 ? 0 : 1;
        }
        String name = "seed " + seed;
        Bench.due(name + " end", end, endOfOne);
        Bench.due(name + " count", whole.look(2), did);
        Bench.due(name + " PC", whole.look(0), single.look(0));
        Bench.due(name + " OVERFLOW", whole.look(1), single.look(1));
        for (int a = 0; a < 140; a++) {
            long v = whole.get(a);
            Bench.due(name + " word " + a, v, single.get(a));
            Bench.due(name + " word " + a + " has 36 bits", v >= Bench.LEAST && v <= Bench.GREATEST ? 1 : 0, 1);
        }
    }

    private static void anyArguments() {
        Random random = new Random(36);
        for (int objects = 0; objects < 200; objects++) {
            TenMachine machine = filled(objects);
            for (int calls = 0; calls < 90; calls++) {
                machine.put(random.nextInt(5000) - 400, random.nextLong());
                machine.get(random.nextInt());
                machine.look(random.nextInt(8) - 2);
                int end = machine.go(random.nextInt(5000) - 400, random.nextInt(700) - 100, random.nextBoolean());
                Bench.due("an answer of go", end >= -1 && end <= 2 ? 1 : 0, 1);
            }
        }
    }
}
