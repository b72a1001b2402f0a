import java.math.BigInteger;
import java.util.ArrayList;
import java.util.List;

/** The document's machine once more, in another way: words as texts of bits, numbers as BigIntegers, bytes. */
final class Model {
    private static final BigInteger TWO_TO_32 = BigInteger.ONE.shiftLeft(32);

    private final List<Integer> code = new ArrayList<>();
    private final int[] registers = new int[32];
    private final int[] bytes = new int[4096];
    private int pc = 0;
    private int steps = 0;
    private String bits = "";

    int word(int w) {
        return code.size() < 1024 && code.add(w) ? code.size() : -1;
    }

    boolean put(int r, int v) {
        boolean is = big(r).signum() >= 0 && big(r).bitLength() <= 5;
        if (is && r != 0) {
            registers[r] = v;
        }
        return is;
    }

    int get(int r) {
        return big(r).signum() >= 0 && big(r).bitLength() <= 5 ? registers[r] : 0;
    }

    boolean poke(int a, int v) {
        boolean is = lies(a, 1);
        if (is) {
            bytes[a] = big(v).mod(big(256)).intValue();
        }
        return is;
    }

    int peek(int a) {
        return lies(a, 1) ? bytes[a] : -1;
    }

    boolean go(int a) {
        pc = a % 4 == 0 ? a : pc;
        return a % 4 == 0;
    }

    int pc() {
        return pc;
    }

    int steps() {
        return steps;
    }

    int run(int n) {
        if (Math.abs(n - 500L) > 500) {
            return -1;
        }
        for (int i = 0; i < n; i++) {
            int why = step();
            steps += why < 2 ? 1 : 0;
            registers[0] = 0;
            if (why != 0) {
                return why;
            }
        }
        return 0;
    }

    private int step() {
        if (pc % 4 != 0 || pc < 0 || pc >= 4L * code.size()) {
            return 2;
        }
        int w = code.get(pc / 4);
        bits = new StringBuilder(String.format("%32s", Integer.toBinaryString(w)).replace(' ', '0')).reverse().toString();
        int x = registers[(int) number(15, 19)];
        int y = registers[(int) number(20, 24)];
        int d = (int) number(7, 11);
        int t = (int) number(12, 14);
        int i = (int) signed(cut(20, 31));
        int old = pc;
        switch ((int) number(0, 6)) {
            case 0x13:
                boolean moves = t == 1 || t == 5;
                return tell(d, reckon(moves ? (int) number(25, 31) : 0, t, x, moves ? (int) number(20, 24) : i, moves));
            case 0x33:
                return tell(d, reckon((int) number(25, 31), t, x, y, false));
            case 0x37:
                return tell(d, big(number(12, 31) * 4096));
            case 0x17:
                return tell(d, big(number(12, 31) * 4096 + pc));
            case 0x03:
                return load(d, t, x + i);
            case 0x23:
                return store(t, x + (int) signed(cut(25, 31) + cut(7, 11)), y);
            case 0x63:
                return branch(t, x, y, (int) signed(cut(31, 31) + cut(7, 7) + cut(25, 30) + cut(8, 11) + "0"));
            case 0x6F:
                registers[d] = old + 4;
                pc = old + (int) signed(cut(31, 31) + cut(12, 19) + cut(20, 20) + cut(21, 30) + "0");
                return 0;
            case 0x67:
                if (t != 0) {
                    return 3;
                }
                registers[d] = old + 4;
                pc = (x + i) / 2 * 2 - ((x + i) % 2 == -1 ? 2 : 0);
                return 0;
            case 0x73:
                pc += w == 0x73 ? 4 : 0;
                return w == 0x73 ? 1 : 3;
            default:
                return 3;
        }
    }

    /** Bits from .. to of the word, the highest first. */
    private String cut(int from, int to) {
        return new StringBuilder(bits.substring(from, to + 1)).reverse().toString();
    }

    private long number(int from, int to) {
        return Long.parseLong(cut(from, to), 2);
    }

    private static long signed(String pieces) {
        long n = Long.parseLong(pieces, 2);
        return pieces.charAt(0) == '1' ? n - (1L << pieces.length()) : n;
    }

    private static BigInteger big(long n) {
        return BigInteger.valueOf(n);
    }

    private static BigInteger bare(int n) {
        return big(n).mod(TWO_TO_32);
    }

    private int tell(int d, BigInteger v) {
        if (v == null) {
            return 3;
        }
        registers[d] = v.intValue();
        pc += 4;
        return 0;
    }

    private static BigInteger one(boolean is) {
        return is ? BigInteger.ONE : BigInteger.ZERO;
    }

    private static BigInteger reckon(int s, int t, int a, int b, boolean byField) {
        BigInteger x = big(a);
        BigInteger y = big(b);
        int by = b & 31;
        if (s == 32) {
            return t == 0 && !byField ? x.subtract(y) : t == 5 ? x.shiftRight(by) : null;
        }
        if (s == 1 && !byField) {
            return product(t, a, b);
        }
        if (s != 0) {
            return null;
        }
        return switch (t) {
            case 0 -> x.add(y);
            case 1 -> x.shiftLeft(by);
            case 2 -> one(x.compareTo(y) < 0);
            case 3 -> one(bare(a).compareTo(bare(b)) < 0);
            case 4 -> x.xor(y);
            case 5 -> bare(a).shiftRight(by);
            case 6 -> x.or(y);
            default -> x.and(y);
        };
    }

    private static BigInteger product(int t, int a, int b) {
        BigInteger x = t == 3 || t == 5 || t == 7 ? bare(a) : big(a);
        BigInteger y = t == 2 || t == 3 || t == 5 || t == 7 ? bare(b) : big(b);
        if (t == 0) {
            return x.multiply(y);
        }
        if (t < 4) {
            return x.multiply(y).shiftRight(32);
        }
        if (b == 0) {
            return t < 6 ? big(-1) : x;
        }
        return t < 6 ? x.divide(y) : x.remainder(y);
    }

    private static boolean lies(int a, int width) {
        return a >= 0 && (long) a + width <= 4096 && a % width == 0;
    }

    private int load(int d, int t, int a) {
        if (t == 3 || t == 6 || t == 7) {
            return 3;
        }
        int width = t == 2 ? 4 : t == 1 || t == 5 ? 2 : 1;
        if (!lies(a, width)) {
            return 4;
        }
        long n = 0;
        for (int k = 0; k < width; k++) {
            n += (long) bytes[a + k] << 8 * k;
        }
        if (t < 4 && bytes[a + width - 1] > 127) {
            n -= 1L << 8 * width;
        }
        return tell(d, big(n));
    }

    private int store(int t, int a, int y) {
        if (t > 2) {
            return 3;
        }
        int width = t == 0 ? 1 : t == 1 ? 2 : 4;
        if (!lies(a, width)) {
            return 4;
        }
        for (int k = 0; k < width; k++) {
            bytes[a + k] = bare(y).shiftRight(8 * k).intValue() & 255;
        }
        pc += 4;
        return 0;
    }

    private int branch(int t, int x, int y, int distance) {
        int order = t < 6 ? Integer.compare(x, y) : bare(x).compareTo(bare(y));
        boolean[] goes = {order == 0, order != 0, false, false, order < 0, order >= 0, order < 0, order >= 0};
        if (t == 2 || t == 3) {
            return 3;
        }
        pc += goes[t] ? distance : 4;
        return 0;
    }
}
