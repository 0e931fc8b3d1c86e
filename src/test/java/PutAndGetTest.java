/** Promises 2 and 3: put and get. */
public final class PutAndGetTest {
    private static final long NO_WORD = 1L << 40;

    public static void main(String[] args) {
        ordinaryWords();
        lowestBits();
        otherWords();
        everyWordByItself();
        Bench.finish();
    }

    private static void ordinaryWords() {
        new Bench("words").put(0, 1).put(15, -1).put(16, 77).put(4095, -5)
                .has(0, 1).has(15, -1).has(16, 77).has(4095, -5).has(1, 0).has(4094, 0)
                .put(16, 78).has(16, 78).has(15, -1)
                .pc(0).overflow(0).count(0);
    }

    private static void lowestBits() {
        new Bench("36 bits").put(5, Bench.GREATEST).has(5, Bench.GREATEST)
                .put(5, Bench.LEAST).has(5, Bench.LEAST)
                .put(5, Bench.GREATEST + 1).has(5, Bench.LEAST)
                .put(5, Bench.LEAST - 1).has(5, Bench.GREATEST)
                .put(5, 1L << 36).has(5, 0)
                .put(5, (1L << 36) - 1).has(5, -1)
                .put(5, (1L << 36) + 9).has(5, 9)
                .put(5, Long.MAX_VALUE).has(5, -1)
                .put(5, Long.MIN_VALUE).has(5, 0)
                .put(5, Long.MIN_VALUE + 3).has(5, 3);
    }

    private static void otherWords() {
        int[] others = {-1, -4096, 4096, 4097, 262143, Integer.MAX_VALUE, Integer.MIN_VALUE};
        TenMachine x = new TenMachine();
        for (int a : others) {
            Bench.due("put(" + a + ", 7)", x.put(a, 7), TenMachine.REFUSED);
            Bench.due("get(" + a + ")", x.get(a), NO_WORD);
        }
        Bench.due("get(0) behind refusals", x.get(0), 0);
        Bench.due("get(4095) behind refusals", x.get(4095), 0);
    }

    private static void everyWordByItself() {
        for (int part = 0; part < 32; part++) {
            TenMachine x = new TenMachine();
            for (int a = part * 128; a < part * 128 + 128; a++) {
                Bench.due("put(" + a + ")", x.put(a, a * 1000003L), 0);
            }
            for (int a = part * 128; a < part * 128 + 128; a++) {
                Bench.due("get(" + a + ")", x.get(a), a * 1000003L);
            }
        }
    }
}
