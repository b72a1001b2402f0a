/** Promise 9, stop 3: every OP, T and S, told instruction by instruction. */
public final class NoInstructionTest {
    private static final Due DUE = new Due();

    public static void main(String[] args) {
        for (int op = 0; op < 128; op++) {
            for (int t = 0; t < 8; t++) {
                everyS(op, t);
            }
        }
        onlyOneWordAsks();
        DUE.end();
    }

    private static void everyS(int op, int t) {
        WordMachine m = new WordMachine();
        for (int s = 0; s < 128; s++) {
            m.word(Words.fields(op, 9, t, 3, 17, s));
        }
        for (int s = 0; s < 128; s++) {
            m.go(4 * s);
            boolean stopped = m.run(1) == 3;
            DUE.is("no instruction at OP " + op + " T " + t + " S " + s, stopped, !isInstruction(op, t, s));
        }
    }

    private static boolean isInstruction(int op, int t, int s) {
        return switch (op) {
            case 0x13 -> t == 1 ? s == 0 : t == 5 ? s == 0 || s == 32 : true;
            case 0x33 -> s == 0 || s == 1 || s == 32 && (t == 0 || t == 5);
            case 0x37, 0x17, 0x6F -> true;
            case 0x03 -> "01245".indexOf('0' + t) >= 0;
            case 0x23 -> "012".indexOf('0' + t) >= 0;
            case 0x63 -> "014567".indexOf('0' + t) >= 0;
            case 0x67 -> t == 0;
            default -> false;
        };
    }

    private static void onlyOneWordAsks() {
        DUE.is("run(1) of 0x73", Words.machine(0x73).run(1), 1);
        for (int bit = 7; bit < 32; bit++) {
            WordMachine m = Words.machine(0x73 | 1 << bit);
            DUE.is("run(1) of 0x73 with bit " + bit, m.run(1), 3);
            DUE.is("pc() of 0x73 with bit " + bit, m.pc(), 0);
            DUE.is("steps() of 0x73 with bit " + bit, m.steps(), 0);
        }
    }
}
