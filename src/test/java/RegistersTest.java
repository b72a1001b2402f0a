/** Promises 3 and 4: put and get. */
public final class RegistersTest {
    private static final int[] NO_REGISTERS = {-1, 32, 33, 64, -32, 4096, Integer.MAX_VALUE, Integer.MIN_VALUE};

    public static void main(String[] args) {
        Due due = new Due();
        WordMachine m = new WordMachine();
        for (int r = 0; r < 32; r++) {
            due.is("put(" + r + ")", m.put(r, -1000 - r), true);
        }
        for (int r : NO_REGISTERS) {
            due.is("put(" + r + ")", m.put(r, 77), false);
            due.is("get(" + r + ")", m.get(r), 0);
        }
        due.is("get(0) stays 0", m.get(0), 0);
        for (int r = 1; r < 32; r++) {
            due.is("get(" + r + ")", m.get(r), -1000 - r);
        }
        m.put(31, Integer.MIN_VALUE);
        due.is("get(31)", m.get(31), Integer.MIN_VALUE);
        m.put(31, Integer.MAX_VALUE);
        due.is("get(31)", m.get(31), Integer.MAX_VALUE);
        due.is("pc()", m.pc(), 0);
        due.is("steps()", m.steps(), 0);
        stepsLeaveRegister0At0(due);
        due.end();
    }

    private static void stepsLeaveRegister0At0(Due due) {
        int[] words = {
            Words.number(0, 0, 0, 7), Words.register(0, 0, 0, 1, 1), Words.register(1, 0, 0, 1, 1),
            0x12345037, 0x12345017, Words.load(2, 0, 0, 0), Words.jump(0, 4), Words.jumpTo(0, 0, 32),
        };
        WordMachine m = Words.machine(words);
        m.put(1, 3);
        m.poke(0, 9);
        for (int i = 0; i < words.length; i++) {
            due.is("run(1) with D 0, word " + i, m.run(1), 0);
            due.is("get(0) after word " + i, m.get(0), 0);
        }
        due.is("steps()", m.steps(), words.length);
        due.is("pc()", m.pc(), 32);
    }
}
