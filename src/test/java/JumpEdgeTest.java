/** The edges that "Terms" names for OP 0x63, 0x6F and 0x67: conditions, distances and the lowest bit. */
public final class JumpEdgeTest {
    private static final int LEAST = Integer.MIN_VALUE;
    private static final int MOST = Integer.MAX_VALUE;
    private static final int BEHIND = 8;
    private static final Due DUE = new Due();

    public static void main(String[] args) {
        conditionsWithSign();
        conditionsWithoutSign();
        branchDistancesHaveTheirSign();
        elseBy4();
        branchesChangeNothingElse();
        jumpDistancesHaveTheirSign();
        jumpsTellPcAnd4();
        theLowestBitIs0();
        jumpsByARegisterWrap();
        theOldPcIsTold();
        onlyT0JumpsByARegister();
        DUE.end();
    }

    private static void branches(int t, int x, int y, boolean goes) {
        WordMachine m = Words.busy(Words.branch(t, 6, 7, 40));
        m.put(6, x);
        m.put(7, y);
        String call = "branch T " + t + " with x " + x + " and y " + y;
        DUE.is("run(1), " + call, m.run(1), 0);
        DUE.is("pc(), " + call, m.pc(), goes ? 44 : BEHIND);
    }

    private static void conditionsWithSign() {
        int[][] same = {{0, 0}, {-1, -1}, {LEAST, LEAST}, {MOST, MOST}};
        int[][] below = {{0, 1}, {-1, 0}, {-1, 1}, {-2, -1}, {LEAST, MOST}, {LEAST, -1}, {LEAST, LEAST + 1},
            {MOST - 1, MOST}};
        DUE.sentence("0 x is y, 1 is not");
        for (int[] c : same) {
            branches(0, c[0], c[1], true);
            branches(1, c[0], c[1], false);
        }
        for (int[] c : below) {
            branches(0, c[0], c[1], false);
            branches(1, c[0], c[1], true);
        }
        DUE.sentence("4 x is below y, 5 is not");
        for (int[] c : same) {
            branches(4, c[0], c[1], false);
            branches(5, c[0], c[1], true);
        }
        for (int[] c : below) {
            branches(4, c[0], c[1], true);
            branches(5, c[0], c[1], false);
            branches(4, c[1], c[0], false);
            branches(5, c[1], c[0], true);
        }
    }

    private static void conditionsWithoutSign() {
        DUE.sentence("6 below without sign, 7 not");
        int[][] same = {{0, 0}, {-1, -1}, {LEAST, LEAST}, {MOST, MOST}};
        for (int[] c : same) {
            branches(6, c[0], c[1], false);
            branches(7, c[0], c[1], true);
        }
        int[][] below = {{0, 1}, {0, -1}, {1, -1}, {-2, -1}, {MOST, LEAST}, {LEAST, -1}, {LEAST, LEAST + 1},
            {MOST - 1, MOST}};
        for (int[] c : below) {
            branches(6, c[0], c[1], true);
            branches(7, c[0], c[1], false);
            branches(6, c[1], c[0], false);
            branches(7, c[1], c[0], true);
        }
    }

    /** The word at PC 4 is done; then PC is 4 + distance and register d, if it is not 0, has told. */
    private static void goes(String call, int w, int distance, int d, int told) {
        WordMachine m = Words.busy(w);
        DUE.is("run(1), " + call, m.run(1), 0);
        DUE.is("pc(), " + call, m.pc(), 4 + distance);
        DUE.is("steps(), " + call, m.steps(), 2);
        if (d != 0) {
            DUE.is("get(" + d + "), " + call, m.get(d), told);
        }
    }

    private static void branchDistancesHaveTheirSign() {
        DUE.sentence("PC goes on by the number of bits 31, 7, 30 .. 25, 11 .. 8, 0 (the first is the sign, 13 bits)");
        int[] bits = {8, 9, 10, 11, 25, 26, 27, 28, 29, 30, 7, 31};
        int distance = 2;
        for (int bit : bits) {
            goes("branch with bit " + bit, 0x63 | 1 << bit, bit == 31 ? -4096 : distance, 0, 0);
            distance *= 2;
        }
        goes("branch without these bits", 0x63, 0, 0, 0);
        goes("branch with all but the sign", 0x7E000FE3, 4094, 0, 0);
        goes("branch with all", 0xFE000FE3, -2, 0, 0);
        goes("branch by -4", Words.branch(0, 0, 0, -4), -4, 0, 0);
        goes("branch by -4092", Words.branch(0, 0, 0, -4092), -4092, 0, 0);
    }

    private static void elseBy4() {
        DUE.sentence("else by 4");
        int[] distances = {0, 4, 8, 2, 4094, -2, -4, -4096};
        for (int distance : distances) {
            goes("branch by " + distance + " that is not taken", Words.branch(1, 0, 0, distance), 4, 0, 0);
        }
    }

    private static void branchesChangeNothingElse() {
        DUE.sentence("what is told comes into register D: a branch tells nothing, its bits 7 .. 11 are of the number");
        int[] distances = {30, 2046, -2, -4096};
        for (int distance : distances) {
            State.onlyPcAndSteps(DUE, "run(1), branch by " + distance,
                () -> Words.busy(Words.branch(0, 0, 0, distance)), m -> m.run(1), 0, distance, 1);
        }
    }

    private static void jumpDistancesHaveTheirSign() {
        DUE.sentence("PC goes on by the number of bits 31, 19 .. 12, 20, 30 .. 21, 0 (21 bits)");
        int[] bits = {21, 22, 23, 24, 25, 26, 27, 28, 29, 30, 20, 12, 13, 14, 15, 16, 17, 18, 19, 31};
        int distance = 2;
        for (int bit : bits) {
            goes("jump with bit " + bit, 0x6F | 1 << bit, bit == 31 ? -1048576 : distance, 0, 0);
            distance *= 2;
        }
        goes("jump without these bits", 0x6F, 0, 0, 0);
        goes("jump with all but the sign", 0x7FFFF06F, 1048574, 0, 0);
        goes("jump with all", 0xFFFFF06F, -2, 0, 0);
        goes("jump by -4", Words.jump(0, -4), -4, 0, 0);
    }

    private static void jumpsTellPcAnd4() {
        DUE.sentence("OP 0x6F: D becomes PC + 4");
        int[] registers = {1, 2, 16, 31};
        for (int d : registers) {
            goes("jump by 0 with D " + d, Words.jump(d, 0), 0, d, BEHIND);
            goes("jump by -1048576 with D " + d, Words.jump(d, -1048576), -1048576, d, BEHIND);
        }
    }

    private static void jumpsTo(int x, int i, int want) {
        WordMachine m = Words.busy(Words.jumpTo(1, 6, i));
        m.put(6, x);
        String call = "jump to " + x + " + " + i;
        DUE.is("run(1), " + call, m.run(1), 0);
        DUE.is("pc(), " + call, m.pc(), want);
        DUE.is("get(1), " + call, m.get(1), BEHIND);
        DUE.is("get(6), " + call, m.get(6), x);
        DUE.is("steps(), " + call, m.steps(), 2);
    }

    private static void theLowestBitIs0() {
        DUE.sentence("OP 0x67, T 0: PC becomes x + I with its lowest bit 0");
        int[][] cases = {{0, 0, 0}, {0, 1, 0}, {1, 0, 0}, {1, 1, 2}, {0, 2, 2}, {0, 3, 2}, {3, 1, 4}, {0, 2047, 2046},
            {0, -1, -2}, {0, -2, -2}, {0, -2047, -2048}, {0, -2048, -2048}, {1, -2, -2}, {LEAST, 1, LEAST},
            {MOST, 0, MOST - 1}};
        for (int[] c : cases) {
            jumpsTo(c[0], c[1], c[2]);
        }
    }

    private static void jumpsByARegisterWrap() {
        DUE.sentence("Numbers wrap: where a jump goes too");
        jumpsTo(MOST, 1, LEAST);
        jumpsTo(MOST, 2047, LEAST + 2046);
        jumpsTo(LEAST, -1, MOST - 1);
        jumpsTo(LEAST, -2048, MOST - 2047);
        jumpsTo(-4, 4, 0);
        jumpsTo(-4, 12, 8);
    }

    private static void theOldPcIsTold() {
        DUE.sentence("D becomes the old PC + 4");
        WordMachine m = Words.busy(Words.jumpTo(6, 6, 8));
        m.put(6, 100);
        DUE.is("run(1), D is X", m.run(1), 0);
        DUE.is("pc(), D is X", m.pc(), 108);
        DUE.is("get(6), D is X", m.get(6), BEHIND);
        WordMachine back = Words.machine(Words.jump(1, 12), Words.ASK, Words.ASK, Words.jumpTo(1, 1, 0));
        DUE.is("run(2), there and back", back.run(2), 0);
        DUE.is("pc(), back", back.pc(), 4);
        DUE.is("get(1), back", back.get(1), 16);
    }

    private static void onlyT0JumpsByARegister() {
        DUE.sentence("OP 0x67, T 0");
        for (int t = 1; t < 8; t++) {
            int w = Words.withI(0x67, 1, t, 6, 8);
            State.nothingDone(DUE, "run(1), OP 0x67 T " + t, () -> Words.busy(w), m -> m.run(1), 3);
        }
    }
}
