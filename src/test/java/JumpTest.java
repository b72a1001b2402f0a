/** Promise 9: OP 0x63, 0x6F and 0x67. */
public final class JumpTest {
    private static final int LEAST = Integer.MIN_VALUE;
    private static final int MOST = Integer.MAX_VALUE;
    private static final Due DUE = new Due();

    public static void main(String[] args) {
        conditions();
        branchDistances();
        jumpDistances();
        jumpsToRegisters();
        placesThatAreNoMultipleOf4();
        aCallAndItsReturn();
        DUE.end();
    }

    private static void branches(int t, int x, int y, boolean taken) {
        WordMachine m = Words.machine(Words.ASK, Words.branch(t, 6, 7, 40));
        m.put(6, x);
        m.put(7, y);
        m.go(4);
        String call = "branch T " + t + " of " + x + " and " + y;
        DUE.is(call + ": run(1)", m.run(1), 0);
        DUE.is(call + ": pc()", m.pc(), taken ? 44 : 8);
        DUE.is(call + ": steps()", m.steps(), 1);
        DUE.is(call + ": get(8), D is no register here", m.get(8), 0);
    }

    private static void conditions() {
        int[][] pairs = {{0, 0}, {1, 2}, {2, 1}, {-1, 1}, {1, -1}, {-1, -1}, {LEAST, MOST}, {MOST, LEAST},
            {LEAST, LEAST}, {-2, -1}};
        for (int[] pair : pairs) {
            int x = pair[0];
            int y = pair[1];
            branches(0, x, y, x == y);
            branches(1, x, y, x != y);
            branches(4, x, y, x < y);
            branches(5, x, y, x >= y);
            branches(6, x, y, Integer.compareUnsigned(x, y) < 0);
            branches(7, x, y, Integer.compareUnsigned(x, y) >= 0);
        }
    }

    private static void lands(String what, int w, int from, int want, int d, int wantD) {
        WordMachine m = new WordMachine();
        for (int a = 0; a < from; a += 4) {
            m.word(Words.ASK);
        }
        m.word(w);
        m.go(from);
        DUE.is(what + ": run(1)", m.run(1), 0);
        DUE.is(what + ": pc()", m.pc(), want);
        DUE.is(what + ": get(" + d + ")", m.get(d), wantD);
        DUE.is(what + ": steps()", m.steps(), 1);
    }

    private static void branchDistances() {
        int[] distances = {0, 2, 4, 6, 30, 32, 1024, 2046, 2048, 4094, -2, -4, -32, -2048, -2050, -4096, 2730, -2732};
        for (int distance : distances) {
            lands("branch by " + distance, Words.branch(0, 0, 0, distance), 400, 400 + distance, 1, 0);
        }
        lands("branch by bit 7", 0x63 | 1 << 7, 0, 2048, 1, 0);
        lands("branch by bit 8", 0x63 | 1 << 8, 0, 2, 2, 0);
        lands("branch by bit 25", 0x63 | 1 << 25, 0, 32, 1, 0);
        lands("branch by bit 30", 0x63 | 1 << 30, 0, 1024, 1, 0);
        lands("branch by bit 31", 0x63 | 1 << 31, 0, -4096, 1, 0);
    }

    private static void jumpDistances() {
        int[] distances = {0, 2, 4, 6, 1024, 2046, 2048, 4096, 65536, 1048574, -2, -4, -2048, -4096, -1048576,
            699050, -699052};
        for (int distance : distances) {
            lands("jump by " + distance, Words.jump(1, distance), 400, 400 + distance, 1, 404);
        }
        lands("jump by bit 12", 0x6F | 31 << 7 | 1 << 12, 0, 4096, 31, 4);
        lands("jump by bit 19", 0x6F | 31 << 7 | 1 << 19, 0, 524288, 31, 4);
        lands("jump by bit 20", 0x6F | 31 << 7 | 1 << 20, 0, 2048, 31, 4);
        lands("jump by bit 21", 0x6F | 31 << 7 | 1 << 21, 0, 2, 31, 4);
        lands("jump by bit 30", 0x6F | 31 << 7 | 1 << 30, 0, 1024, 31, 4);
        lands("jump by bit 31", 0x6F | 31 << 7 | 1 << 31, 0, -1048576, 31, 4);
        lands("jump without D", Words.jump(0, 8), 0, 8, 0, 0);
    }

    private static void jumpsTo(int x, int i, int want) {
        WordMachine m = Words.machine(Words.ASK, Words.jumpTo(1, 6, i));
        m.put(6, x);
        m.go(4);
        String call = "jump to " + x + " + " + i;
        DUE.is(call + ": run(1)", m.run(1), 0);
        DUE.is(call + ": pc()", m.pc(), want);
        DUE.is(call + ": get(1)", m.get(1), 8);
        DUE.is(call + ": get(6)", m.get(6), x);
    }

    private static void jumpsToRegisters() {
        jumpsTo(0, 0, 0);
        jumpsTo(100, 4, 104);
        jumpsTo(100, 5, 104);
        jumpsTo(101, 0, 100);
        jumpsTo(101, 1, 102);
        jumpsTo(101, -1, 100);
        jumpsTo(4096, -2048, 2048);
        jumpsTo(0, 2047, 2046);
        jumpsTo(0, -1, -2);
        jumpsTo(MOST, 1, LEAST);
        WordMachine same = Words.machine(Words.jumpTo(6, 6, 8));
        same.put(6, 32);
        DUE.is("a jump with D as X: run(1)", same.run(1), 0);
        DUE.is("a jump with D as X: pc()", same.pc(), 40);
        DUE.is("a jump with D as X: get(6)", same.get(6), 4);
        for (int t = 1; t < 8; t++) {
            WordMachine m = Words.machine(Words.withI(0x67, 1, t, 0, 8));
            DUE.is("0x67 T " + t + ": run(1)", m.run(1), 3);
            DUE.is("0x67 T " + t + ": pc()", m.pc(), 0);
            DUE.is("0x67 T " + t + ": get(1)", m.get(1), 0);
        }
    }

    private static void placesThatAreNoMultipleOf4() {
        int[] words = {Words.branch(0, 0, 0, 6), Words.jump(1, 6), Words.jumpTo(1, 0, 7)};
        for (int w : words) {
            WordMachine m = Words.machine(w, Words.ASK, Words.ASK, Words.ASK);
            DUE.is("run(1) to 6", m.run(1), 0);
            DUE.is("pc()", m.pc(), 6);
            DUE.is("run(1) at 6", m.run(1), 2);
            DUE.is("pc() stays", m.pc(), 6);
            DUE.is("steps()", m.steps(), 1);
            DUE.is("go(8)", m.go(8), true);
            DUE.is("run(1) at 8", m.run(1), 1);
        }
    }

    private static void aCallAndItsReturn() {
        WordMachine m = Words.machine(Words.number(0, 10, 0, 20), Words.jump(1, 12), Words.number(0, 11, 10, 1),
            Words.ASK, Words.register(0, 0, 10, 10, 10), Words.jumpTo(0, 1, 0));
        DUE.is("run(1000)", m.run(1000), 1);
        DUE.is("get(10)", m.get(10), 40);
        DUE.is("get(11)", m.get(11), 41);
        DUE.is("get(1)", m.get(1), 8);
        DUE.is("pc()", m.pc(), 16);
        DUE.is("steps()", m.steps(), 6);
    }
}
