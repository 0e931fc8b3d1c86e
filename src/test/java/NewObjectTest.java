/** Promise 1: all words of a new object are 0, and no object knows of another. */
public final class NewObjectTest {
    public static void main(String[] args) {
        TenMachine other = new TenMachine();
        for (int a = 0; a < 500; a++) {
            other.put(a, -1);
        }
        // An object is good for 512 calls, so each one is asked for a part of its words.
        for (int part = 0; part < 16; part++) {
            TenMachine x = new TenMachine();
            for (int a = part * 256; a < part * 256 + 256; a++) {
                Bench.due("new: get(" + a + ")", x.get(a), 0);
            }
        }
        new Bench("new").pc(0).overflow(0).count(0);
        new Bench("a new machine stops at once").go(0, 5, false, 1).pc(1).overflow(0).count(1);
        Bench.finish();
    }
}
