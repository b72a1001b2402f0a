/** Promise 9: OP 0x13, 0x33, 0x37 and 0x17, what comes into register D. */
public final class NumbersTest {
    private static final int LEAST = Integer.MIN_VALUE;
    private static final int MOST = Integer.MAX_VALUE;
    private static final Due DUE = new Due();

    public static void main(String[] args) {
        withNumber();
        movedByY();
        plainOfRegisters();
        otherOfRegisters();
        products();
        quotients();
        upper();
        targetsThatAreSources();
        DUE.end();
    }

    private static void done(String what, int w, int x, int y, int want) {
        WordMachine m = Words.machine(Words.ASK, w);
        m.put(6, x);
        m.put(7, y);
        m.put(5, 0x5A5A5A5A);
        m.go(4);
        String call = what + " of " + x + " and " + y;
        DUE.is(call + ": run(1)", m.run(1), 0);
        DUE.is(call + ": get(5)", m.get(5), want);
        DUE.is(call + ": get(6)", m.get(6), x);
        DUE.is(call + ": get(7)", m.get(7), y);
        DUE.is(call + ": pc()", m.pc(), 8);
        DUE.is(call + ": steps()", m.steps(), 1);
    }

    private static void number(int t, int x, int i, int want) {
        done("0x13 T " + t + " I " + i, Words.number(t, 5, 6, i), x, 0, want);
    }

    private static void withNumber() {
        number(0, 40, 2, 42);
        number(0, 0, 2047, 2047);
        number(0, 0, -2048, -2048);
        number(0, MOST, 1, LEAST);
        number(0, LEAST, -1, MOST);
        number(2, 3, 4, 1);
        number(2, 4, 4, 0);
        number(2, -5, -4, 1);
        number(2, -1, 0, 1);
        number(2, 0, -1, 0);
        number(2, LEAST, MOST >>> 20, 1);
        number(3, 3, 4, 1);
        number(3, 4, 4, 0);
        number(3, 0, -1, 1);
        number(3, -1, 0, 0);
        number(3, -1, -1, 0);
        number(3, LEAST, -2048, 1);
        number(4, 0b1100, 0b1010, 0b0110);
        number(4, 5, -1, -6);
        number(6, 0b1100, 0b1010, 0b1110);
        number(6, 0, -2048, -2048);
        number(7, 0b1100, 0b1010, 0b1000);
        number(7, -1, -2048, -2048);
        number(7, 0x12345678, 0x7FF, 0x678);
    }

    private static void moved(int s, int t, int x, int by, int want) {
        done("0x13 T " + t + " S " + s + " Y " + by, Words.fields(0x13, 5, t, 6, by, s), x, 0, want);
    }

    private static void movedByY() {
        moved(0, 1, 3, 0, 3);
        moved(0, 1, 3, 4, 48);
        moved(0, 1, 3, 31, LEAST);
        moved(0, 5, -1, 0, -1);
        moved(0, 5, -1, 4, 0x0FFFFFFF);
        moved(0, 5, LEAST, 31, 1);
        moved(32, 5, -256, 0, -256);
        moved(32, 5, -256, 4, -16);
        moved(32, 5, LEAST, 31, -1);
        moved(32, 5, MOST, 30, 1);
    }

    private static void register(int s, int t, int x, int y, int want) {
        done("0x33 T " + t + " S " + s, Words.register(s, t, 5, 6, 7), x, y, want);
    }

    private static void plainOfRegisters() {
        register(0, 0, 40, 2, 42);
        register(0, 0, MOST, MOST, -2);
        register(0, 1, 3, 4, 48);
        register(0, 1, 3, 32, 3);
        register(0, 1, 3, -1, LEAST);
        register(0, 2, -1, 0, 1);
        register(0, 2, 0, -1, 0);
        register(0, 2, 7, 7, 0);
        register(0, 2, LEAST, MOST, 1);
        register(0, 3, -1, 0, 0);
        register(0, 3, 0, -1, 1);
        register(0, 3, 7, 7, 0);
        register(0, 3, LEAST, MOST, 0);
        register(0, 4, 0x0F0F, 0x00FF, 0x0FF0);
        register(0, 5, -1, 28, 15);
        register(0, 5, -1, 32, -1);
        register(0, 5, LEAST, 63, 1);
        register(0, 6, 0x0F0F, 0x00FF, 0x0FFF);
        register(0, 7, 0x0F0F, 0x00FF, 0x000F);
    }

    private static void otherOfRegisters() {
        register(32, 0, 40, 2, 38);
        register(32, 0, LEAST, 1, MOST);
        register(32, 0, 0, LEAST, LEAST);
        register(32, 5, -256, 4, -16);
        register(32, 5, -256, 36, -16);
        register(32, 5, LEAST, -1, -1);
        register(32, 5, MOST, 31, 0);
    }

    private static void products() {
        register(1, 0, -7, 6, -42);
        register(1, 0, 0x10001, 0x10001, 0x20001);
        register(1, 0, LEAST, -1, LEAST);
        register(1, 1, -1, -1, 0);
        register(1, 1, -1, 1, -1);
        register(1, 1, LEAST, LEAST, 0x40000000);
        register(1, 1, MOST, MOST, 0x3FFFFFFF);
        register(1, 1, LEAST, MOST, 0xC0000000);
        register(1, 2, -1, -1, -1);
        register(1, 2, 1, -1, 0);
        register(1, 2, MOST, -1, 0x7FFFFFFE);
        register(1, 2, LEAST, -1, LEAST);
        register(1, 2, LEAST, LEAST, 0xC0000000);
        register(1, 2, -1, 1, -1);
        register(1, 3, -1, -1, -2);
        register(1, 3, -1, 1, 0);
        register(1, 3, LEAST, 2, 1);
        register(1, 3, LEAST, LEAST, 0x40000000);
    }

    private static void quotients() {
        register(1, 4, 7, 2, 3);
        register(1, 4, -7, 2, -3);
        register(1, 4, 7, -2, -3);
        register(1, 4, -7, -2, 3);
        register(1, 4, 5, 0, -1);
        register(1, 4, LEAST, 0, -1);
        register(1, 4, 0, 0, -1);
        register(1, 4, LEAST, -1, LEAST);
        register(1, 4, MOST, -1, -MOST);
        register(1, 5, -1, 2, MOST);
        register(1, 5, 7, -1, 0);
        register(1, 5, LEAST, -1, 0);
        register(1, 5, -1, 1, -1);
        register(1, 5, 5, 0, -1);
        register(1, 5, 0, 0, -1);
        register(1, 6, 7, 2, 1);
        register(1, 6, -7, 2, -1);
        register(1, 6, 7, -2, 1);
        register(1, 6, -7, -2, -1);
        register(1, 6, 5, 0, 5);
        register(1, 6, LEAST, 0, LEAST);
        register(1, 6, LEAST, -1, 0);
        register(1, 7, -1, 2, 1);
        register(1, 7, 7, -1, 7);
        register(1, 7, LEAST, -1, LEAST);
        register(1, 7, -1, 10, 5);
        register(1, 7, -5, 0, -5);
        register(1, 7, 0, 0, 0);
    }

    private static void upper() {
        done("0x37", 0xABCDE037 | 5 << 7, 0, 0, 0xABCDE000);
        done("0x37", 0x00001037 | 5 << 7, 0, 0, 0x1000);
        done("0x17", 0xABCDE017 | 5 << 7, 0, 0, 0xABCDE004);
        done("0x17", 0x00000017 | 5 << 7, 0, 0, 4);
        done("0x17", 0xFFFFF017 | 5 << 7, 0, 0, 4 - 4096);
    }

    private static void targetsThatAreSources() {
        WordMachine m = Words.machine(Words.register(0, 0, 31, 31, 31), Words.register(32, 0, 31, 31, 30),
            Words.register(1, 0, 30, 31, 30), Words.number(0, 30, 30, -1));
        m.put(31, 21);
        m.put(30, 2);
        DUE.is("run(4)", m.run(4), 0);
        DUE.is("get(31)", m.get(31), 40);
        DUE.is("get(30)", m.get(30), 79);
    }
}
