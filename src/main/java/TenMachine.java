/**
 * A machine of words of 36 bits, as the PDP-10 is. Words are held as the longs that they are told
 * as, -2^35 to 2^35 - 1, so that arithmetic and bitwise operators work on them as they stand.
 * Operation codes stand in base 8, as in the document's table.
 */
public final class TenMachine {
    public static final int REFUSED = -1;

    private static final int DONE = 0;
    private static final int STOP = 1;
    private static final int FAULT = 2;

    private static final int WORDS = 4096;
    private static final int LAST_AC = 15;
    private static final int MOST_INSTRUCTIONS = 500;
    private static final int MOST_IN_A_ROW = 8;
    private static final int NO_ADDRESS = -1;
    private static final long NO_WORD = 1L << 40;

    private static final int HALF = 0777777;
    private static final int HALF_SIGN = 0400000;
    private static final long INDIRECT = 1L << 22;
    private static final long ALL_BITS = (1L << 36) - 1;
    private static final long SIGN = 1L << 35;
    private static final long GREATEST = SIGN - 1;
    private static final long LEAST = -SIGN;
    // A long's shift by more than this would begin again at 0.
    private static final int FARTHEST_SHIFT = 63;

    private static final int IMMEDIATE = 1;
    private static final int TO_MEMORY = 2;
    private static final int TO_MEMORY_AND_AC = 3;

    private static final int MOVE = 0200;
    private static final int MOVS = 0204;
    private static final int MOVN = 0210;
    private static final int MOVM = 0214;
    private static final int IMUL = 0220;
    private static final int IDIV = 0230;
    private static final int ASH = 0240;
    private static final int ROT = 0241;
    private static final int LSH = 0242;
    private static final int JFFO = 0243;
    private static final int EXCH = 0250;
    private static final int BLT = 0251;
    private static final int AOBJP = 0252;
    private static final int AOBJN = 0253;
    private static final int JRST = 0254;
    private static final int JFCL = 0255;
    private static final int XCT = 0256;
    private static final int PUSHJ = 0260;
    private static final int PUSH = 0261;
    private static final int POP = 0262;
    private static final int POPJ = 0263;
    private static final int JSR = 0264;
    private static final int JSP = 0265;
    private static final int ADD = 0270;
    private static final int SUB = 0274;

    private final long[] word;
    private int pc;
    private boolean overflow;
    private int doneByLatestGo;

    // The instruction that is being done; kept here so that its parts need not be handed around.
    private int op;
    private int ac;
    private int e;

    public TenMachine() {
        word = new long[WORDS];
    }

    public int put(int a, long v) {
        if (!isThere(a)) {
            return REFUSED;
        }
        word[a] = signed(v);
        return 0;
    }

    public long get(int a) {
        return isThere(a) ? word[a] : NO_WORD;
    }

    public int go(int pc, int n, boolean fresh) {
        if (!isThere(pc) || n < 0 || n > MOST_INSTRUCTIONS) {
            return REFUSED;
        }
        this.pc = pc;
        if (fresh) {
            overflow = false;
        }
        doneByLatestGo = 0;
        int end = DONE;
        for (int k = 0; k < n && end == DONE; k++) {
            end = step();
            if (end != FAULT) {
                doneByLatestGo++;
            }
        }
        return end;
    }

    public int look(int what) {
        switch (what) {
            case 0:
                return pc;
            case 1:
                return overflow ? 1 : 0;
            case 2:
                return doneByLatestGo;
            default:
                return REFUSED;
        }
    }

    // Every operation looks for its faults before it changes anything, so only PC is to be mended.
    private int step() {
        int at = pc;
        if (!fetch(at)) {
            return FAULT;
        }
        pc = at + 1;
        int end = perform();
        if (end == FAULT) {
            pc = at;
        }
        return end;
    }

    /** Takes apart the instruction at a word, or the one that XCTs there lead to. */
    private boolean fetch(int at) {
        int from = at;
        for (int xcts = 0; xcts <= MOST_IN_A_ROW; xcts++) {
            if (!isThere(from)) {
                return false;
            }
            long instruction = word[from];
            op = (int) (instruction >> 27) & 0777;
            ac = (int) (instruction >> 23) & LAST_AC;
            e = address(instruction);
            if (e == NO_ADDRESS) {
                return false;
            }
            if (op != XCT) {
                return true;
            }
            from = e;
        }
        return false;
    }

    private int address(long instruction) {
        long from = instruction;
        for (int indirections = 0; indirections <= MOST_IN_A_ROW; indirections++) {
            int x = (int) (from >> 18) & LAST_AC;
            int at = right(x == 0 ? from : from + word[x]);
            if ((from & INDIRECT) == 0) {
                return at;
            }
            if (!isThere(at)) {
                return NO_ADDRESS;
            }
            from = word[at];
        }
        return NO_ADDRESS;
    }

    private int perform() {
        switch (op >> 6) {
            case 2:
                return performTwoHundreds();
            case 3:
                return compare();
            case 4:
                return combineBits();
            case 5:
                return moveHalf();
            case 6:
                return testBits();
            default:
                return STOP;
        }
    }

    private int performTwoHundreds() {
        switch (family()) {
            case MOVE:
            case MOVS:
            case MOVN:
            case MOVM:
                return move();
            case IMUL:
            case ADD:
            case SUB:
                return calculate();
            case IDIV:
                return divide();
            case ASH:
                return shiftOrFindFirstOne();
            case PUSHJ:
                return useStack();
            default:
                return performSingle();
        }
    }

    private int performSingle() {
        switch (op) {
            case EXCH:
                return exchange();
            case BLT:
                return transferBlock();
            case AOBJP:
                return countBothHalves(false);
            case AOBJN:
                return countBothHalves(true);
            case JRST:
                return jumpIf(true);
            case JFCL:
                return jumpOnOverflow();
            case JSR:
                return callStoringAtE();
            case JSP:
                word[ac] = pc;
                return jumpIf(true);
            default:
                return STOP;
        }
    }

    // ---- the modes

    private int family() {
        return op & 0774;
    }

    private int mode() {
        return op & 3;
    }

    private boolean lacksOperand() {
        return mode() != IMMEDIATE && !isThere(e);
    }

    private long operand() {
        return mode() == IMMEDIATE ? e : word[e];
    }

    private int storeBoth(long v) {
        if (mode() >= TO_MEMORY) {
            word[e] = v;
        }
        if (mode() != TO_MEMORY) {
            word[ac] = v;
        }
        return DONE;
    }

    private int storeSelf(long v) {
        if (mode() >= TO_MEMORY) {
            word[e] = v;
        }
        if (mode() < TO_MEMORY || mode() == TO_MEMORY_AND_AC && ac != 0) {
            word[ac] = v;
        }
        return DONE;
    }

    // ---- moves and arithmetic

    private int move() {
        if (lacksOperand()) {
            return FAULT;
        }
        long v = mode() == TO_MEMORY ? word[ac] : operand();
        switch (family()) {
            case MOVS:
                return storeSelf(swapped(v));
            case MOVN:
                return storeSelf(result(-v));
            case MOVM:
                return storeSelf(result(v < 0 ? -v : v));
            default:
                return storeSelf(v);
        }
    }

    private int calculate() {
        if (lacksOperand()) {
            return FAULT;
        }
        long x = word[ac];
        long y = operand();
        switch (family()) {
            case ADD:
                return storeBoth(result(x + y));
            case SUB:
                return storeBoth(result(x - y));
            default:
                return storeBoth(product(x, y));
        }
    }

    private long product(long x, long y) {
        // A product may be too long even for a long, so its size is found by a division.
        if (x != 0 && Math.abs(y) > SIGN / Math.abs(x)) {
            overflow = true;
            return signed(x * y);
        }
        return result(x * y);
    }

    private int divide() {
        if (lacksOperand()) {
            return FAULT;
        }
        long x = word[ac];
        long y = operand();
        if (y == 0 || y == -1 && x == LEAST) {
            overflow = true;
            return DONE;
        }
        storeBoth(x / y);
        if (mode() != TO_MEMORY) {
            word[acAfter()] = x % y;
        }
        return DONE;
    }

    private int acAfter() {
        return (ac + 1) & LAST_AC;
    }

    private long result(long v) {
        long kept = signed(v);
        if (kept != v) {
            overflow = true;
        }
        return kept;
    }

    // ---- shifts

    private int shiftOrFindFirstOne() {
        switch (op) {
            case ASH:
                word[ac] = shiftedWithSign(word[ac], places());
                return DONE;
            case ROT:
                word[ac] = turnedRound(word[ac], places());
                return DONE;
            case LSH:
                word[ac] = shiftedWithoutSign(word[ac], places());
                return DONE;
            case JFFO:
            default:
                return findFirstOne();
        }
    }

    private int places() {
        int n = (e & HALF_SIGN) == 0 ? e : e - HALF - 1;
        return n % 256;
    }

    private long shiftedWithSign(long v, int n) {
        if (n < 0) {
            return v >> Math.min(-n, FARTHEST_SHIFT);
        }
        int by = Math.min(n, FARTHEST_SHIFT);
        // Outside these bounds a bit unlike the sign leaves; a 0 that came in counts as well.
        if (v < -(SIGN >> by) || v > GREATEST >> by) {
            overflow = true;
        }
        return signed((v & SIGN) | ((v << by) & GREATEST));
    }

    private static long turnedRound(long v, int n) {
        long bits = v & ALL_BITS;
        int by = Math.floorMod(n, 36);
        return signed((bits << by) | (bits >> (36 - by)));
    }

    private static long shiftedWithoutSign(long v, int n) {
        long bits = v & ALL_BITS;
        return signed(n < 0 ? bits >> Math.min(-n, FARTHEST_SHIFT) : bits << Math.min(n, FARTHEST_SHIFT));
    }

    private int findFirstOne() {
        long bits = word[ac] & ALL_BITS;
        word[acAfter()] = bits == 0 ? 0 : Long.numberOfLeadingZeros(bits) - 28;
        return jumpIf(bits != 0);
    }

    // ---- exchanges, blocks, jumps and stacks

    private int exchange() {
        if (!isThere(e)) {
            return FAULT;
        }
        long v = word[e];
        word[e] = word[ac];
        word[ac] = v;
        return DONE;
    }

    private int transferBlock() {
        int from = left(word[ac]);
        int to = right(word[ac]);
        int more = Math.max(e - to, 0);
        if (!isThere(from + more) || !isThere(to + more)) {
            return FAULT;
        }
        // One by one, since a word that was just written may be read again.
        for (int k = 0; k <= more; k++) {
            word[to + k] = word[from + k];
        }
        return DONE;
    }

    private int countBothHalves(boolean jumpsBelow) {
        word[ac] = bothHalvesMore(word[ac], 1);
        return jumpIf(word[ac] < 0 == jumpsBelow);
    }

    private int jumpOnOverflow() {
        boolean jumps = (ac & 8) != 0 && overflow;
        if (jumps) {
            overflow = false;
        }
        return jumpIf(jumps);
    }

    private int callStoringAtE() {
        if (!isThere(e)) {
            return FAULT;
        }
        word[e] = pc;
        pc = e + 1;
        return DONE;
    }

    private int useStack() {
        switch (op) {
            case PUSHJ:
                return push(pc) ? jumpIf(true) : FAULT;
            case PUSH:
                return isThere(e) && push(word[e]) ? DONE : FAULT;
            case POP:
                return pop();
            case POPJ:
            default:
                return popToPc();
        }
    }

    private boolean push(long v) {
        long pointer = bothHalvesMore(word[ac], 1);
        int top = right(pointer);
        if (!isThere(top)) {
            return false;
        }
        word[ac] = pointer;
        word[top] = v;
        return true;
    }

    private int pop() {
        int top = right(word[ac]);
        if (!isThere(e) || !isThere(top)) {
            return FAULT;
        }
        long v = word[top];
        word[ac] = bothHalvesMore(word[ac], -1);
        word[e] = v;
        return DONE;
    }

    private int popToPc() {
        int top = right(word[ac]);
        if (!isThere(top)) {
            return FAULT;
        }
        pc = right(word[top]);
        word[ac] = bothHalvesMore(word[ac], -1);
        return DONE;
    }

    // ---- comparisons

    private int compare() {
        boolean needsWord = (op & 010) != 0;
        if (needsWord && !isThere(e)) {
            return FAULT;
        }
        switch (op & 0770) {
            case 0300:
                return skipIf(holds(word[ac], e));
            case 0310:
                return skipIf(holds(word[ac], word[e]));
            case 0320:
                return jumpIf(holds(word[ac], 0));
            case 0330:
                return skipOnWord(word[e]);
            case 0340:
                return countAc(1);
            case 0350:
                return countWord(1);
            case 0360:
                return countAc(-1);
            default:
                return countWord(-1);
        }
    }

    private int skipOnWord(long v) {
        if (ac != 0) {
            word[ac] = v;
        }
        return skipIf(holds(v, 0));
    }

    private int countAc(int by) {
        word[ac] = result(word[ac] + by);
        return jumpIf(holds(word[ac], 0));
    }

    private int countWord(int by) {
        long v = result(word[e] + by);
        word[e] = v;
        return skipOnWord(v);
    }

    // Conditions 4 to 7 are the opposites of 0 to 3.
    private boolean holds(long x, long y) {
        boolean below = (op & 1) != 0 && x < y;
        boolean same = (op & 2) != 0 && x == y;
        return (below || same) != ((op & 4) != 0);
    }

    private int skipIf(boolean skips) {
        if (skips) {
            pc++;
        }
        return DONE;
    }

    private int jumpIf(boolean jumps) {
        if (jumps) {
            pc = e;
        }
        return DONE;
    }

    // ---- bits

    private int combineBits() {
        if (lacksOperand()) {
            return FAULT;
        }
        int kind = (op >> 2) & 15;
        // The table's second eight are the opposites of its first eight, from the last to the first.
        return storeBoth(kind < 8
                ? combined(kind, word[ac], operand())
                : ~combined(15 - kind, word[ac], operand()));
    }

    private static long combined(int kind, long x, long m) {
        switch (kind) {
            case 1:
                return x & m;
            case 2:
                return ~x & m;
            case 3:
                return m;
            case 4:
                return x & ~m;
            case 5:
                return x;
            case 6:
                return x ^ m;
            case 7:
                return x | m;
            default:
                return 0;
        }
    }

    private int testBits() {
        boolean needsWord = (op & 010) != 0;
        if (needsWord && !isThere(e)) {
            return FAULT;
        }
        long straight = needsWord ? word[e] : e;
        long mask = (op & 1) == 0 ? straight : swapped(straight);
        boolean wereAllZero = (op & 2) != 0 && (word[ac] & mask) == 0;
        word[ac] = changed(word[ac], mask);
        return skipIf(wereAllZero != ((op & 4) != 0));
    }

    private long changed(long v, long mask) {
        switch ((op >> 4) & 3) {
            case 1:
                return v & ~mask;
            case 2:
                return v ^ mask;
            case 3:
                return v | mask;
            default:
                return v;
        }
    }

    // ---- halves

    private int moveHalf() {
        if (lacksOperand()) {
            return FAULT;
        }
        long from = mode() == TO_MEMORY ? word[ac] : operand();
        long to = mode() < TO_MEMORY ? word[ac] : word[e];
        return storeSelf(withHalfMoved(from, to));
    }

    private long withHalfMoved(long from, long to) {
        boolean intoRight = (op & 040) != 0;
        boolean crosses = (op & 04) != 0;
        int half = intoRight != crosses ? right(from) : left(from);
        int other = otherHalf(half, intoRight ? left(to) : right(to));
        return intoRight ? joined(other, half) : joined(half, other);
    }

    private int otherHalf(int half, int before) {
        switch ((op >> 3) & 3) {
            case 0:
                return before;
            case 1:
                return 0;
            case 2:
                return HALF;
            default:
                return (half & HALF_SIGN) == 0 ? 0 : HALF;
        }
    }

    // ---- words

    private static boolean isThere(int a) {
        return a >= 0 && a < WORDS;
    }

    private static long signed(long v) {
        return v << 28 >> 28;
    }

    private static int left(long v) {
        return (int) (v >> 18) & HALF;
    }

    private static int right(long v) {
        return (int) v & HALF;
    }

    // The left half goes up to the long's own sign and back, since its highest bit is the word's.
    private static long joined(int left, int right) {
        return ((long) left << 46 >> 28) | (right & HALF);
    }

    private static long swapped(long v) {
        return joined(right(v), left(v));
    }

    private static long bothHalvesMore(long v, int by) {
        return joined(left(v) + by, right(v) + by);
    }
}
