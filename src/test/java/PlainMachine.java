import java.math.BigInteger;
import java.util.Arrays;
import java.util.List;

/**
 * The document read a second time, for tests alone, in a way that shares nothing with TenMachine:
 * words are texts of 36 characters 0 and 1, numbers are BigIntegers, each OP is taken apart into its
 * digits as the table tells them, and a FAULT takes back whatever was done before it was seen.
 */
final class PlainMachine {
    /** What ends an instruction that needs a word that is not there, or goes on for too long. */
    private static final class Fault extends RuntimeException {
        private static final long serialVersionUID = 1;
    }

    private static final BigInteger ALL = BigInteger.TWO.pow(36);
    private static final BigInteger BEYOND = BigInteger.TWO.pow(35);
    private static final String ZEROS = "0".repeat(36);

    private final String[] words = new String[4096];
    private int pc;
    private boolean overflow;
    private int done;

    PlainMachine() {
        Arrays.fill(words, ZEROS);
    }

    // ---- the face

    int put(int a, long v) {
        if (a < 0 || a > 4095) {
            return -1;
        }
        words[a] = text(BigInteger.valueOf(v));
        return 0;
    }

    long get(int a) {
        return a < 0 || a > 4095 ? 1L << 40 : number(words[a]).longValueExact();
    }

    int go(int newPc, int n, boolean fresh) {
        if (newPc < 0 || newPc > 4095 || n < 0 || n > 500) {
            return -1;
        }
        pc = newPc;
        overflow = !fresh && overflow;
        for (done = 0; done < n; ) {
            String[] before = words.clone();
            int pcBefore = pc;
            boolean overflowBefore = overflow;
            try {
                boolean stops = one();
                done++;
                if (stops) {
                    return 1;
                }
            } catch (Fault fault) {
                System.arraycopy(before, 0, words, 0, 4096);
                pc = pcBefore;
                overflow = overflowBefore;
                return 2;
            }
        }
        return 0;
    }

    int look(int what) {
        return what == 0 ? pc : what == 1 ? (overflow ? 1 : 0) : what == 2 ? done : -1;
    }

    // ---- words as texts

    private static String text(BigInteger v) {
        String digits = v.mod(ALL).toString(2);
        return "0".repeat(36 - digits.length()) + digits;
    }

    private static String text(long v) {
        return text(BigInteger.valueOf(v));
    }

    private static BigInteger number(String w) {
        BigInteger v = new BigInteger(w, 2);
        return w.charAt(0) == '1' ? v.subtract(ALL) : v;
    }

    private static int small(String digits) {
        return Integer.parseInt(digits, 2);
    }

    private static String half(int v) {
        return text(v).substring(18);
    }

    private static String left(String w) {
        return w.substring(0, 18);
    }

    private static String right(String w) {
        return w.substring(18);
    }

    private static String exchanged(String w) {
        return right(w) + left(w);
    }

    /** Each bit of x and y by a row of four answers: for 0 and 0, 0 and 1, 1 and 0, 1 and 1. */
    private static String bitwise(String row, String x, String y) {
        StringBuilder made = new StringBuilder();
        for (int k = 0; k < 36; k++) {
            made.append(row.charAt((x.charAt(k) - '0') * 2 + y.charAt(k) - '0'));
        }
        return made.toString();
    }

    private static String halvesBy(String w, int by) {
        return half(small(left(w)) + by) + half(small(right(w)) + by);
    }

    private String at(int a) {
        if (a > 4095) {
            throw new Fault();
        }
        return words[a];
    }

    private void set(int a, String w) {
        if (a > 4095) {
            throw new Fault();
        }
        words[a] = w;
    }

    /** The result modulo 2^36, with OVERFLOW if it was beyond. */
    private String kept(BigInteger v) {
        if (v.compareTo(BEYOND) >= 0 || v.compareTo(BEYOND.negate()) < 0) {
            overflow = true;
        }
        return text(v);
    }

    // ---- one instruction

    private int findE(String w) {
        String teller = w;
        int times = 0;
        while (true) {
            int x = small(teller.substring(14, 18));
            int sum = small(right(teller)) + (x == 0 ? 0 : small(right(words[x])));
            int found = sum % 262144;
            if (teller.charAt(13) == '0') {
                return found;
            }
            times++;
            if (times > 8) {
                throw new Fault();
            }
            teller = at(found);
        }
    }

    /** True for a STOP. */
    private boolean one() {
        String w = at(pc);
        int e = findE(w);
        int xcts = 0;
        while (w.startsWith("010101110")) {
            xcts++;
            if (xcts > 8) {
                throw new Fault();
            }
            w = at(e);
            e = findE(w);
        }
        pc++;
        String op = Integer.toOctalString(512 + small(w.substring(0, 9))).substring(1);
        String last = w.substring(3, 9);
        int a = small(w.substring(9, 13));
        switch (op.charAt(0)) {
            case '2':
                return twoHundreds(op, a, e);
            case '3':
                comparison(op, a, e);
                return false;
            case '4':
                logic(small(last.substring(0, 4)), small(last.substring(4)), a, e);
                return false;
            case '5':
                halves(last, a, e);
                return false;
            case '6':
                test(last, a, e);
                return false;
            default:
                return true;
        }
    }

    private boolean twoHundreds(String op, int a, int e) {
        int mode = (op.charAt(2) - '0') % 4;
        String first = op.substring(0, 2) + (op.charAt(2) < '4' ? "0" : "4");
        switch (first) {
            case "200":
            case "204":
            case "210":
            case "214":
                move(first, mode, a, e);
                return false;
            case "220":
            case "270":
            case "274":
                both(mode, a, e, arithmetic(first, words[a], operand(mode, e)));
                return false;
            case "230":
                division(mode, a, e);
                return false;
            case "240":
                shift(op, a, e);
                return false;
            case "260":
                stack(op, a, e);
                return false;
            default:
                return single(op, a, e);
        }
    }

    // ---- modes

    private String operand(int mode, int e) {
        return mode == 1 ? text(e) : at(e);
    }

    private void both(int mode, int a, int e, String made) {
        if (mode == 2 || mode == 3) {
            set(e, made);
        }
        if (mode == 0 || mode == 1 || mode == 3) {
            words[a] = made;
        }
    }

    private void self(int mode, int a, int e, String made) {
        if (mode == 3 && a == 0) {
            set(e, made);
        } else {
            both(mode, a, e, made);
        }
    }

    // ---- 200 to 277

    private void move(String first, int mode, int a, int e) {
        String source = mode == 2 ? words[a] : operand(mode, e);
        String made = source;
        if (first.equals("204")) {
            made = exchanged(source);
        } else if (first.equals("210")) {
            made = kept(BigInteger.ZERO.subtract(number(source)));
        } else if (first.equals("214")) {
            made = kept(number(source).abs());
        }
        self(mode, a, e, made);
    }

    private String arithmetic(String first, String ac, String it) {
        switch (first) {
            case "220":
                return kept(number(ac).multiply(number(it)));
            case "270":
                return kept(number(ac).add(number(it)));
            default:
                return kept(number(ac).subtract(number(it)));
        }
    }

    private void division(int mode, int a, int e) {
        BigInteger divisor = number(operand(mode, e));
        BigInteger divided = number(words[a]);
        if (divisor.signum() == 0 || divided.equals(BEYOND.negate()) && divisor.equals(BigInteger.ONE.negate())) {
            overflow = true;
            return;
        }
        BigInteger[] results = divided.divideAndRemainder(divisor);
        both(mode, a, e, text(results[0]));
        if (mode != 2) {
            words[a == 15 ? 0 : a + 1] = text(results[1]);
        }
    }

    private void shift(String op, int a, int e) {
        int n = (e < 131072 ? e : e - 262144) % 256;
        String w = words[a];
        switch (op) {
            case "240":
                words[a] = n < 0 ? text(number(w).shiftRight(-n)) : multiplied(w, n);
                break;
            case "241":
                words[a] = turned(w, n);
                break;
            case "242":
                words[a] = n < 0 ? ("0".repeat(-n) + w).substring(0, 36) : (w + "0".repeat(n)).substring(n);
                break;
            default:
                int before = w.indexOf('1');
                words[a == 15 ? 0 : a + 1] = text(before < 0 ? 0 : before);
                pc = before < 0 ? pc : e;
                break;
        }
    }

    /** One place at a time, to see each bit that leaves. */
    private String multiplied(String w, int n) {
        String sign = w.substring(0, 1);
        String lowest = w.substring(1);
        for (int k = 0; k < n; k++) {
            if (!lowest.startsWith(sign)) {
                overflow = true;
            }
            lowest = lowest.substring(1) + "0";
        }
        return sign + lowest;
    }

    private static String turned(String w, int n) {
        String made = w;
        for (int k = 0; k < Math.abs(n); k++) {
            made = n > 0 ? made.substring(1) + made.charAt(0) : made.charAt(35) + made.substring(0, 35);
        }
        return made;
    }

    /** 250 to 257 and 264 to 267, and what is none of the table's OPS. True for a STOP. */
    private boolean single(String op, int a, int e) {
        switch (op) {
            case "250":
                String old = at(e);
                set(e, words[a]);
                words[a] = old;
                return false;
            case "251":
                block(words[a], e);
                return false;
            case "252":
            case "253":
                words[a] = halvesBy(words[a], 1);
                boolean isBelow = words[a].charAt(0) == '1';
                pc = isBelow == op.equals("253") ? e : pc;
                return false;
            case "254":
                pc = e;
                return false;
            case "255":
                if (text(a).charAt(32) == '1' && overflow) {
                    overflow = false;
                    pc = e;
                }
                return false;
            case "264":
                set(e, text(pc));
                pc = e + 1;
                return false;
            case "265":
                words[a] = text(pc);
                pc = e;
                return false;
            default:
                return true;
        }
    }

    private void block(String ac, int e) {
        int from = small(left(ac));
        int to = small(right(ac));
        do {
            set(to, at(from));
            from++;
            to++;
        } while (to <= e);
    }

    private void stack(String op, int a, int e) {
        String was = words[a];
        String pushed = op.equals("261") ? at(e) : text(pc);
        switch (op) {
            case "260":
            case "261":
                words[a] = halvesBy(was, 1);
                set(small(right(words[a])), pushed);
                pc = op.equals("260") ? e : pc;
                break;
            default:
                String popped = at(small(right(was)));
                words[a] = halvesBy(was, -1);
                if (op.equals("262")) {
                    set(e, popped);
                } else {
                    pc = small(right(popped));
                }
                break;
        }
    }

    // ---- 300 to 377

    private static boolean holds(char condition, int compared) {
        switch (condition) {
            case '0':
                return false;
            case '1':
                return compared < 0;
            case '2':
                return compared == 0;
            case '3':
                return compared <= 0;
            case '4':
                return true;
            case '5':
                return compared >= 0;
            case '6':
                return compared != 0;
            default:
                return compared > 0;
        }
    }

    private void comparison(String op, int a, int e) {
        char kind = op.charAt(1);
        char condition = op.charAt(2);
        BigInteger ac = number(words[a]);
        int by = kind == '4' || kind == '5' ? 1 : kind == '6' || kind == '7' ? -1 : 0;
        if (kind == '0' || kind == '1') {
            BigInteger it = kind == '0' ? BigInteger.valueOf(e) : number(at(e));
            pc += holds(condition, ac.compareTo(it)) ? 1 : 0;
        } else if (kind == '2' || kind == '4' || kind == '6') {
            words[a] = kept(ac.add(BigInteger.valueOf(by)));
            pc = holds(condition, number(words[a]).signum()) ? e : pc;
        } else {
            String it = kept(number(at(e)).add(BigInteger.valueOf(by)));
            set(e, it);
            if (a != 0) {
                words[a] = it;
            }
            pc += holds(condition, number(it).signum()) ? 1 : 0;
        }
    }

    // ---- 400 to 477, 500 to 577, 600 to 677

    /** The sixteen in the table's order, each by what it makes of AC's bit and M's: 00, 01, 10, 11. */
    private static final List<String> SIXTEEN = List.of(
            "0000", "0001", "0100", "0101", "0010", "0011", "0110", "0111",
            "1000", "1001", "1100", "1101", "1010", "1011", "1110", "1111");

    private void logic(int which, int mode, int a, int e) {
        both(mode, a, e, bitwise(SIXTEEN.get(which), words[a], operand(mode, e)));
    }

    private void halves(String bits, int a, int e) {
        int mode = small(bits.substring(4));
        String from = mode == 2 ? words[a] : operand(mode, e);
        String to = mode == 0 || mode == 1 ? words[a] : at(e);
        boolean intoLeft = bits.charAt(0) == '0';
        boolean fromLeft = intoLeft == (bits.charAt(3) == '0');
        String moved = fromLeft ? left(from) : right(from);
        String other = intoLeft ? right(to) : left(to);
        switch (bits.substring(1, 3)) {
            case "01":
                other = "0".repeat(18);
                break;
            case "10":
                other = "1".repeat(18);
                break;
            case "11":
                other = moved.substring(0, 1).repeat(18);
                break;
            default:
                break;
        }
        self(mode, a, e, intoLeft ? moved + other : other + moved);
    }

    private void test(String bits, int a, int e) {
        String mask = bits.charAt(2) == '0' ? text(e) : at(e);
        if (bits.charAt(5) == '1') {
            mask = exchanged(mask);
        }
        boolean allZero = bitwise("0001", words[a], mask).equals(ZEROS);
        // Rows over AC's bit and MASK's: nothing, become 0, are turned, become 1.
        words[a] = bitwise(List.of("0011", "0010", "0110", "0111").get(small(bits.substring(0, 2))), words[a], mask);
        switch (bits.substring(3, 5)) {
            case "01":
                pc += allZero ? 1 : 0;
                break;
            case "10":
                pc++;
                break;
            case "11":
                pc += allZero ? 0 : 1;
                break;
            default:
                break;
        }
    }
}
