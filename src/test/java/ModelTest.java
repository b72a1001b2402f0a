/** Promises 1 to 10: many programs, the same ones at every run, each compared with the Model. */
public final class ModelTest {
    private static final int PROGRAMS = 4000;
    private static final int WORDS = 40;
    private static final int[] OPS = {0x13, 0x13, 0x33, 0x33, 0x33, 0x37, 0x17, 0x03, 0x03, 0x23, 0x23, 0x63, 0x63, 0x6F,
        0x67};
    private static final int[] EDGES = {0, 1, -1, 2, -2, 7, 31, 32, 64, 255, 256, 4088, 4092, 4096, 32767, 65535, 65536,
        Integer.MAX_VALUE, Integer.MIN_VALUE, Integer.MIN_VALUE + 1};

    private static final Due DUE = new Due();
    private static final int[] REASONS = new int[5];
    private static long seed = 20261116;

    public static void main(String[] args) {
        for (int program = 0; program < PROGRAMS; program++) {
            compare(program);
        }
        for (int reason = 0; reason < REASONS.length; reason++) {
            DUE.is("programs met reason " + reason, REASONS[reason] > 100, true);
        }
        DUE.end();
    }

    private static int next(int below) {
        seed = seed * 6364136223846793005L + 1442695040888963407L;
        return (int) ((seed >>> 33) % below);
    }

    private static int anyInt() {
        return next(1 << 16) << 16 | next(1 << 16);
    }

    private static int anyValue() {
        return switch (next(4)) {
            case 0 -> EDGES[next(EDGES.length)];
            case 1 -> next(24) * 4;
            case 2 -> 4096 - next(40);
            default -> anyInt();
        };
    }

    private static int anyWord() {
        int kind = next(40);
        if (kind == 0) {
            return anyInt();
        }
        if (kind == 1) {
            return Words.ASK;
        }
        int op = OPS[next(OPS.length)];
        int d = next(32);
        int t = next(8);
        int x = next(8);
        int y = next(8);
        return switch (op) {
            case 0x13 -> t == 1 || t == 5 ? Words.fields(op, d, t, x, next(32), next(9) == 0 ? next(128) : 32 * next(2))
                : Words.withI(op, d, t, x, anyInt());
            case 0x33 -> Words.fields(op, d, t, x, y, next(20) == 0 ? next(128) : new int[] {0, 1, 1, 32}[next(4)]);
            case 0x03 -> Words.load(next(12) == 0 ? t : t % 3 + (t % 3 < 2 ? 4 * next(2) : 0), d, x, next(9) * 2 - 8);
            case 0x23 -> Words.store(next(12) == 0 ? t : t % 3, y, x, next(9) * 2 - 8);
            case 0x63 -> Words.branch(t, x, y, next(12) * 4 - 20);
            case 0x6F -> Words.jump(d, next(20) == 0 ? anyInt() : next(12) * 4 - 20);
            case 0x67 -> Words.withI(op, d, next(9) == 0 ? t : 0, next(3), next(WORDS) * 4 + next(2));
            default -> op | d << 7 | anyInt() << 12;
        };
    }

    private static void compare(int program) {
        int[] code = new int[WORDS];
        for (int i = 0; i < WORDS; i++) {
            code[i] = anyWord();
        }
        WordMachine m = Words.machine(code);
        Model model = new Model(code);
        for (int r = 1; r < 32; r++) {
            int v = anyValue();
            m.put(r, v);
            model.registers[r] = v;
        }
        for (int k = 0; k < 64; k++) {
            int a = watched(k);
            int v = next(256);
            m.poke(a, v);
            model.bytes[a] = v;
        }
        // Behind a stop both go on at another word, so that one bad word does not hide all that follow it.
        for (int round = 0; round < 30; round++) {
            int n = next(12);
            int want = model.run(n);
            REASONS[want]++;
            DUE.is("program " + program + ": run(" + n + ")", m.run(n), want);
            DUE.is("program " + program + ": pc()", m.pc(), model.pc);
            DUE.is("program " + program + ": steps()", m.steps(), model.steps);
            if (want > 1) {
                model.pc = 4 * next(WORDS);
                m.go(model.pc);
            }
        }
        for (int r = 0; r < 32; r++) {
            DUE.is("program " + program + ": get(" + r + ")", m.get(r), model.registers[r]);
        }
        for (int k = 0; k < 160; k++) {
            DUE.is("program " + program + ": peek(" + watched(k) + ")", m.peek(watched(k)), model.bytes[watched(k)]);
        }
    }

    private static int watched(int k) {
        return k % 2 == 0 ? k / 2 : 4095 - k / 2;
    }
}
