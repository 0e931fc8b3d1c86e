/** Boundary cases of 400 to 477, of the halves and of the bits that are tested. */
public final class EdgesOfBitsTest {
    public static void main(String[] args) {
        zerosAndOnes();
        eachWithZerosAndOnes();
        oppositesHave36Bits();
        highestBitOfTheHalf();
        halvesOfE();
        otherHalfStays();
        emptyMask();
        fullMask();
        maskOfE();
        maskWithTheSign();
        asTheyWere();
        maskNeedsItsWord();
        Bench.finish();
    }

    /** "in order: 0; ... all ones" */
    private static void zerosAndOnes() {
        for (int mode = 0; mode < 4; mode++) {
            int gets = mode == 2 ? 20 : 3;
            new Bench("0, mode " + mode).put(3, 6).put(20, 7).does(0400 + mode, 3, 20).has(gets, 0).overflow(0);
            new Bench("all ones, mode " + mode).put(3, 6).put(20, 7).does(0474 + mode, 3, 20).has(gets, -1).overflow(0);
        }
    }

    /** "in order": each kind of AC and M where both, one or none of them is all ones. */
    private static void eachWithZerosAndOnes() {
        String[] ofBothAcMNone = {
            "0000", "1000", "0010", "1010", "0100", "1100", "0110", "1110",
            "0001", "1001", "0011", "1011", "0101", "1101", "0111", "1111",
        };
        long[] acs = {-1, -1, 0, 0};
        long[] ms = {-1, 0, -1, 0};
        for (int kind = 0; kind < 16; kind++) {
            for (int k = 0; k < 4; k++) {
                new Bench("kind " + kind + " of " + acs[k] + " and " + ms[k]).put(3, acs[k]).put(20, ms[k])
                        .does(0400 + 4 * kind, 3, 20).has(3, ofBothAcMNone[kind].charAt(k) == '1' ? -1 : 0).has(20, ms[k]);
            }
        }
    }

    /** "and the 8 opposites of these": of 36 bits, so that the sign turns, too. */
    private static void oppositesHave36Bits() {
        new Bench("not AC").put(3, Bench.LEAST).does(0450, 3, 20).has(3, Bench.GREATEST);
        new Bench("not M").put(20, Bench.GREATEST).does(0460, 3, 20).has(3, Bench.LEAST);
        new Bench("not 0,E").does(0461, 3, 0777777).has(3, Bench.word(0777777, 0));
        new Bench("not 0,0").does(0461, 3, 0).has(3, -1);
        new Bench("of or").put(3, Bench.LEAST).put(20, 1).does(0440, 3, 20).has(3, Bench.GREATEST - 1);
        new Bench("AC and not 0,E").put(3, -1).does(0421, 3, 0777777).has(3, Bench.word(0777777, 0));
    }

    /** "3: all as the highest bit of the half that is moved" */
    private static void highestBitOfTheHalf() {
        long below = Bench.word(0377777, 0400000);
        long above = Bench.word(0400000, 0377777);
        half(0530, below, Bench.word(0377777, 0));
        half(0530, above, Bench.word(0400000, 0777777));
        half(0534, below, Bench.word(0400000, 0777777));
        half(0534, above, Bench.word(0377777, 0));
        half(0570, below, Bench.word(0777777, 0400000));
        half(0570, above, Bench.word(0, 0377777));
        half(0574, below, Bench.word(0, 0377777));
        half(0574, above, Bench.word(0777777, 0400000));
    }

    private static void half(int op, long c, long want) {
        String name = Integer.toOctalString(op) + " of " + c;
        new Bench(name).put(3, 0123456).put(20, c).does(op, 3, 20).has(3, want).has(20, c).overflow(0);
        new Bench(name).put(3, c).put(20, 0123456).does(op + 2, 3, 20).has(20, want).has(3, c);
        new Bench(name).put(3, 0123456).put(20, c).does(op + 3, 3, 20).has(20, want).has(3, want);
    }

    /** "1 from 0,E to AC": its left half is 0, and the highest bit of its right half is E's. */
    private static void halvesOfE() {
        new Bench("left of 0,E to the left").put(3, -1).does(0501, 3, 0777777).has(3, Bench.word(0, 0777777));
        new Bench("left of 0,E to the right").put(3, -1).does(0545, 3, 0777777).has(3, Bench.word(0777777, 0));
        new Bench("right of 0,E to the left").put(3, 5).does(0505, 3, 0400000).has(3, Bench.word(0400000, 5));
        new Bench("E 400000, drawn out").put(3, 5).does(0571, 3, 0400000).has(3, -131072);
        new Bench("E 377777, drawn out").put(3, 5).does(0571, 3, 0377777).has(3, 131071);
        new Bench("left of 0,E, drawn out").put(3, -1).does(0531, 3, 0777777).has(3, 0);
        new Bench("E,777777").does(0525, 3, 0777777).has(3, -1);
    }

    /** "0 as that of where it goes": AC in modes 0 and 1, E in modes 2 and 3. */
    private static void otherHalfStays() {
        long ac = Bench.word(1, 2);
        long c = Bench.word(0777777, 0777776);
        new Bench("mode 0").put(3, ac).put(20, c).does(0500, 3, 20).has(3, Bench.word(0777777, 2)).has(20, c);
        new Bench("mode 1").put(3, ac).put(20, c).does(0541, 3, 0777777).has(3, Bench.word(1, 0777777)).has(20, c);
        new Bench("mode 2").put(3, ac).put(20, c).does(0502, 3, 20).has(20, Bench.word(1, 0777776)).has(3, ac);
        new Bench("mode 3").put(3, ac).put(20, c).does(0507, 3, 20).has(20, Bench.word(0777776, 0777776))
                .has(3, Bench.word(0777776, 0777776));
    }

    private static Bench tested(int op, long x, long m) {
        return new Bench(Integer.toOctalString(op) + " of " + x + " and " + m).put(3, x).put(20, m).does(op, 3, 20);
    }

    /** "1 if all bits of MASK were 0 in AC ... 3 if not all were": a MASK of no bits. */
    private static void emptyMask() {
        for (long x : new long[] {0, -1, Bench.LEAST}) {
            for (int change = 0; change < 4; change++) {
                int op = 0610 + 020 * change;
                tested(op, x, 0).skipped(false).has(3, x);
                tested(op + 2, x, 0).skipped(true).has(3, x);
                tested(op + 4, x, 0).skipped(true).has(3, x);
                tested(op + 6, x, 0).skipped(false).has(3, x);
                new Bench("0,0").put(3, x).does(0602 + 020 * change, 3, 0).skipped(true).has(3, x);
                new Bench("0,0").put(3, x).does(0606 + 020 * change, 3, 0).skipped(false).has(3, x);
            }
        }
    }

    /** The same with a MASK of all bits: one bit of AC is enough for "not all". */
    private static void fullMask() {
        for (long x : new long[] {1, -1, Bench.LEAST, 0400000, 1L << 18}) {
            tested(0612, x, -1).skipped(false).has(3, x);
            tested(0616, x, -1).skipped(true).has(3, x);
            tested(0636, x, -1).skipped(true).has(3, 0);
            tested(0656, x, -1).skipped(true).has(3, -1 - x);
            tested(0676, x, -1).skipped(true).has(3, -1);
        }
        tested(0612, 0, -1).skipped(true).has(3, 0);
        tested(0656, 0, -1).skipped(false).has(3, -1);
    }

    /** "0, 0: 0,E; 0, 1: E,0": E may be any 18 bits. */
    private static void maskOfE() {
        new Bench("0,777777").does(0660, 3, 0777777).has(3, 0777777);
        new Bench("777777,0").does(0661, 3, 0777777).has(3, -262144);
        new Bench("0,4096").does(0660, 3, 4096).has(3, 4096);
        new Bench("400000,0").does(0661, 3, 0400000).has(3, Bench.LEAST);
        new Bench("400000,0 of a word below 0").put(3, -1).does(0627, 3, 0400000).skipped(true).has(3, Bench.GREATEST);
    }

    /** "1, 1: its halves exchanged": a bit comes to the sign's place, or from it. */
    private static void maskWithTheSign() {
        tested(0611, Bench.LEAST, 0400000).skipped(false);
        tested(0611, 0, 0400000).skipped(false);
        tested(0615, Bench.LEAST, 0400000).skipped(true);
        tested(0615, 0, 0400000).skipped(true);
        tested(0613, Bench.LEAST, 0400000).skipped(false);
        tested(0613, 0, 0400000).skipped(true);
        tested(0671, 0, 0400000).has(3, Bench.LEAST);
        tested(0671, 0, Bench.LEAST).has(3, 0400000);
        tested(0617, Bench.LEAST, 0400000).skipped(true);
        tested(0617, Bench.LEAST, Bench.LEAST).skipped(false);
    }

    /** "if all bits of MASK were 0 in AC": as AC was before it changed. */
    private static void asTheyWere() {
        tested(0632, 6, 2).skipped(false).has(3, 4);
        tested(0652, 0, 2).skipped(true).has(3, 2);
        tested(0656, 2, 2).skipped(true).has(3, 0);
        tested(0672, 0, 2).skipped(true).has(3, 2);
        new Bench("MASK is AC").put(3, 6).does(0636, 3, 3).skipped(true).has(3, 0);
        new Bench("MASK is AC, turned").put(3, 6).does(0656, 3, 3).skipped(true).has(3, 0);
    }

    /** "1, 0: C(E)": the last word, and one that is not there. */
    private static void maskNeedsItsWord() {
        new Bench("MASK 4095").put(4095, 5).does(0670, 3, 4095).has(3, 5);
        for (int op = 0610; op < 0700; op++) {
            if ((op & 010) != 0) {
                new Bench("MASK 4096 of " + Integer.toOctalString(op)).put(3, 6).faults(op, 3, 4096).has(3, 6);
            }
        }
    }
}
