/** A machine of 32 registers and words of 32 bits that does its code step by step. */
public final class WordMachine {
    private static final int MOST_WORDS = 1024;
    private static final int REGISTER_COUNT = 32;
    private static final int MEMORY_BYTES = 4096;
    private static final int MOST_STEPS = 1000;
    private static final int WORD_BYTES = 4;

    private static final int GOES_ON = 0;
    private static final int ASKS = 1;
    private static final int NO_PLACE = 2;
    private static final int NO_INSTRUCTION = 3;
    private static final int BAD_ADDRESS = 4;

    private static final int OP_LOAD = 0x03;
    private static final int OP_WITH_NUMBER = 0x13;
    private static final int OP_UPPER_FROM_PC = 0x17;
    private static final int OP_STORE = 0x23;
    private static final int OP_WITH_REGISTER = 0x33;
    private static final int OP_UPPER = 0x37;
    private static final int OP_BRANCH = 0x63;
    private static final int OP_JUMP_TO_REGISTER = 0x67;
    private static final int OP_JUMP = 0x6F;
    private static final int OP_ASK = 0x73;
    private static final int WORD_THAT_ASKS = 0x00000073;

    private static final int S_PLAIN = 0;
    private static final int S_PRODUCTS = 1;
    private static final int S_OTHER = 32;
    private static final int T_LEFT = 1;
    private static final int T_RIGHT = 5;

    private static final int UPPER_BITS = 0xFFFFF000;
    private static final int BYTE_BITS = 0xFF;
    private static final int HALF_BITS = 0xFFFF;
    private static final int ALL_BITS = -1;

    private final int[] code;
    private final int[] registers;
    // Four bytes an element: what is loaded or stored is aligned, so it never spans two elements.
    private final int[] memory;
    private int wordCount;
    private int pc;
    private int stepsDone;

    public WordMachine() {
        code = new int[MOST_WORDS];
        registers = new int[REGISTER_COUNT];
        memory = new int[MEMORY_BYTES / WORD_BYTES];
        wordCount = 0;
        pc = 0;
        stepsDone = 0;
    }

    public int word(int w) {
        if (wordCount >= MOST_WORDS) {
            return -1;
        }
        code[wordCount] = w;
        wordCount++;
        return wordCount;
    }

    public boolean put(int r, int v) {
        if (!isRegister(r)) {
            return false;
        }
        setRegister(r, v);
        return true;
    }

    public int get(int r) {
        return isRegister(r) ? registers[r] : 0;
    }

    public boolean poke(int a, int v) {
        if (!isAddress(a, 1)) {
            return false;
        }
        replaceBits(a, BYTE_BITS, v);
        return true;
    }

    public int peek(int a) {
        return isAddress(a, 1) ? bitsFrom(a) & BYTE_BITS : -1;
    }

    public boolean go(int a) {
        if (!isMultiple(a, WORD_BYTES)) {
            return false;
        }
        pc = a;
        return true;
    }

    public int pc() {
        return pc;
    }

    public int run(int n) {
        if (n < 0 || n > MOST_STEPS) {
            return -1;
        }
        for (int i = 0; i < n; i++) {
            int reason = step();
            if (reason != GOES_ON) {
                return reason;
            }
        }
        return GOES_ON;
    }

    public int steps() {
        return stepsDone;
    }

    // ---- one step: each of these answers GOES_ON or why it stops, and changes nothing before it is sure

    private int step() {
        if (!isPlaceOfWord(pc)) {
            return NO_PLACE;
        }
        int reason = perform(code[pc / WORD_BYTES]);
        if (reason == GOES_ON || reason == ASKS) {
            stepsDone++;
        }
        return reason;
    }

    private int perform(int w) {
        switch (fieldOp(w)) {
            case OP_WITH_NUMBER:
                return calculateWithNumber(w);
            case OP_WITH_REGISTER:
                return calculateWithRegister(w);
            case OP_UPPER:
                return tell(w, w & UPPER_BITS);
            case OP_UPPER_FROM_PC:
                return tell(w, pc + (w & UPPER_BITS));
            case OP_LOAD:
                return load(w);
            case OP_STORE:
                return store(w);
            case OP_BRANCH:
                return branch(w);
            case OP_JUMP:
                return jump(w, pc + jumpDistance(w));
            case OP_JUMP_TO_REGISTER:
                return jumpToRegister(w);
            case OP_ASK:
                return ask(w);
            default:
                return NO_INSTRUCTION;
        }
    }

    private int calculateWithNumber(int w) {
        int t = fieldT(w);
        if (t != T_LEFT && t != T_RIGHT) {
            return tell(w, plain(t, valueX(w), numberI(w)));
        }
        int s = fieldS(w);
        if (s == S_PLAIN) {
            return tell(w, plain(t, valueX(w), fieldY(w)));
        }
        if (s == S_OTHER && t == T_RIGHT) {
            return tell(w, movedRightWithSign(valueX(w), fieldY(w)));
        }
        return NO_INSTRUCTION;
    }

    private int calculateWithRegister(int w) {
        int t = fieldT(w);
        int x = valueX(w);
        int y = valueY(w);
        switch (fieldS(w)) {
            case S_PLAIN:
                return tell(w, plain(t, x, y));
            case S_PRODUCTS:
                return tell(w, productOrQuotient(t, x, y));
            case S_OTHER:
                if (t == 0) {
                    return tell(w, x - y);
                }
                return t == T_RIGHT ? tell(w, movedRightWithSign(x, y)) : NO_INSTRUCTION;
            default:
                return NO_INSTRUCTION;
        }
    }

    private int load(int w) {
        int t = fieldT(w);
        if (t == 3 || t > 5) {
            return NO_INSTRUCTION;
        }
        int a = valueX(w) + numberI(w);
        if (!isAddress(a, widthOf(t))) {
            return BAD_ADDRESS;
        }
        return tell(w, loaded(t, bitsFrom(a)));
    }

    private int store(int w) {
        int t = fieldT(w);
        if (t > 2) {
            return NO_INSTRUCTION;
        }
        int a = valueX(w) + storeDistance(w);
        if (!isAddress(a, widthOf(t))) {
            return BAD_ADDRESS;
        }
        replaceBits(a, storedBits(t), valueY(w));
        pc += WORD_BYTES;
        return GOES_ON;
    }

    private int branch(int w) {
        int t = fieldT(w);
        if (t == 2 || t == 3) {
            return NO_INSTRUCTION;
        }
        pc += holds(t, valueX(w), valueY(w)) ? branchDistance(w) : WORD_BYTES;
        return GOES_ON;
    }

    // The target comes as an argument so that it is reckoned before register D, which may be X, changes.
    private int jump(int w, int target) {
        setRegister(fieldD(w), pc + WORD_BYTES);
        pc = target;
        return GOES_ON;
    }

    private int jumpToRegister(int w) {
        if (fieldT(w) != 0) {
            return NO_INSTRUCTION;
        }
        return jump(w, (valueX(w) + numberI(w)) & ~1);
    }

    private int ask(int w) {
        if (w != WORD_THAT_ASKS) {
            return NO_INSTRUCTION;
        }
        pc += WORD_BYTES;
        return ASKS;
    }

    private int tell(int w, int v) {
        setRegister(fieldD(w), v);
        pc += WORD_BYTES;
        return GOES_ON;
    }

    // ---- what is reckoned from x and y

    private static int plain(int t, int x, int y) {
        switch (t) {
            case 0:
                return x + y;
            case T_LEFT:
                return x << (y & 31);
            case 2:
                return x < y ? 1 : 0;
            case 3:
                return unsigned(x) < unsigned(y) ? 1 : 0;
            case 4:
                return x ^ y;
            case T_RIGHT:
                return x >>> (y & 31);
            case 6:
                return x | y;
            default:
                return x & y;
        }
    }

    private static int movedRightWithSign(int x, int y) {
        return x >> (y & 31);
    }

    private static int productOrQuotient(int t, int x, int y) {
        switch (t) {
            case 0:
                return x * y;
            case 1:
                return upperOfProduct(x, y);
            case 2:
                return upperOfProduct(x, unsigned(y));
            case 3:
                return upperOfProduct(unsigned(x), unsigned(y));
            case 4:
                return quotient(x, y);
            case 5:
                return quotient(unsigned(x), unsigned(y));
            case 6:
                return rest(x, y);
            default:
                return rest(unsigned(x), unsigned(y));
        }
    }

    // The product of two numbers without sign may wrap as a long, but its 64 bits are right all the same.
    private static int upperOfProduct(long x, long y) {
        return (int) ((x * y) >>> 32);
    }

    // As longs, the least number by -1 is an ordinary division whose answer wraps to the least number.
    private static int quotient(long x, long y) {
        return y == 0 ? -1 : (int) (x / y);
    }

    private static int rest(long x, long y) {
        return y == 0 ? (int) x : (int) (x % y);
    }

    private static boolean holds(int t, int x, int y) {
        switch (t) {
            case 0:
                return x == y;
            case 1:
                return x != y;
            case 4:
                return x < y;
            case 5:
                return x >= y;
            case 6:
                return unsigned(x) < unsigned(y);
            default:
                return unsigned(x) >= unsigned(y);
        }
    }

    private static long unsigned(int v) {
        return v & 0xFFFFFFFFL;
    }

    // ---- the registers

    private static boolean isRegister(int r) {
        return r >= 0 && r < REGISTER_COUNT;
    }

    private void setRegister(int r, int v) {
        if (r > 0 && r < REGISTER_COUNT) {
            registers[r] = v;
        }
    }

    private int valueX(int w) {
        return registers[fieldX(w)];
    }

    private int valueY(int w) {
        return registers[fieldY(w)];
    }

    // ---- the memory and the code: an address is looked at with isAddress before bitsFrom and replaceBits

    private static boolean isMultiple(int a, int width) {
        return (a & (width - 1)) == 0;
    }

    private static boolean isAddress(int a, int width) {
        return a >= 0 && a <= MEMORY_BYTES - width && isMultiple(a, width);
    }

    private boolean isPlaceOfWord(int a) {
        return a >= 0 && isMultiple(a, WORD_BYTES) && a / WORD_BYTES < wordCount;
    }

    private int bitsFrom(int a) {
        return memory[a / WORD_BYTES] >>> bitOffset(a);
    }

    private void replaceBits(int a, int bits, int v) {
        int kept = memory[a / WORD_BYTES] & ~(bits << bitOffset(a));
        memory[a / WORD_BYTES] = kept | (v & bits) << bitOffset(a);
    }

    private static int bitOffset(int a) {
        return a % WORD_BYTES * 8;
    }

    // T + 4 tells the same width as T, without the sign.
    private static int widthOf(int t) {
        return 1 << (t & 3);
    }

    private static int loaded(int t, int bits) {
        switch (t) {
            case 0:
                return (byte) bits;
            case 1:
                return (short) bits;
            case 4:
                return bits & BYTE_BITS;
            case 5:
                return bits & HALF_BITS;
            default:
                return bits;
        }
    }

    private static int storedBits(int t) {
        switch (t) {
            case 0:
                return BYTE_BITS;
            case 1:
                return HALF_BITS;
            default:
                return ALL_BITS;
        }
    }

    // ---- the fields of a word: D, X and Y have 5 bits, so each is a register that there is

    private static int fieldOp(int w) {
        return w & 127;
    }

    private static int fieldD(int w) {
        return (w >>> 7) & 31;
    }

    private static int fieldT(int w) {
        return (w >>> 12) & 7;
    }

    private static int fieldX(int w) {
        return (w >>> 15) & 31;
    }

    private static int fieldY(int w) {
        return (w >>> 20) & 31;
    }

    private static int fieldS(int w) {
        return w >>> 25;
    }

    private static int numberI(int w) {
        return w >> 20;
    }

    private static int storeDistance(int w) {
        return (w >> 25) << 5 | fieldD(w);
    }

    private static int branchDistance(int w) {
        return (w >> 31) << 12 | ((w >>> 7) & 1) << 11 | ((w >>> 25) & 63) << 5 | ((w >>> 8) & 15) << 1;
    }

    private static int jumpDistance(int w) {
        return (w >> 31) << 20 | (w & 0xFF000) | ((w >>> 20) & 1) << 11 | ((w >>> 21) & 1023) << 1;
    }
}
