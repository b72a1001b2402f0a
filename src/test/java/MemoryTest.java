/** Promises 5 and 6: poke and peek. */
public final class MemoryTest {
    private static final int[] NO_BYTES = {-1, -4, 4096, 4097, 8192, Integer.MAX_VALUE, Integer.MIN_VALUE};

    public static void main(String[] args) {
        Due due = new Due();
        everyByteStandsAlone(due);
        onlyTheLowest8BitsCount(due);
        thereAreNoOtherBytes(due);
        bytesAreWhatLoadsSee(due);
        due.end();
    }

    private static void everyByteStandsAlone(Due due) {
        for (int from = 0; from < 4096; from += 128) {
            WordMachine m = new WordMachine();
            for (int a = from; a < from + 128; a++) {
                due.is("poke(" + a + ")", m.poke(a, a * 7 + 1), true);
            }
            for (int a = from; a < from + 128; a++) {
                due.is("peek(" + a + ")", m.peek(a), (a * 7 + 1) & 255);
            }
            due.is("peek before " + from, m.peek(from - 1), from == 0 ? -1 : 0);
            due.is("peek behind " + (from + 127), m.peek(from + 128), from + 128 == 4096 ? -1 : 0);
        }
    }

    private static void onlyTheLowest8BitsCount(Due due) {
        WordMachine m = new WordMachine();
        int[] values = {0, 1, 127, 128, 255, 256, 258, -1, -128, -129, -256, Integer.MAX_VALUE, Integer.MIN_VALUE};
        for (int a = 4092; a < 4096; a++) {
            for (int v : values) {
                due.is("poke(" + a + ", " + v + ")", m.poke(a, v), true);
                due.is("peek(" + a + ") of " + v, m.peek(a), v & 255);
            }
        }
    }

    private static void thereAreNoOtherBytes(Due due) {
        WordMachine m = new WordMachine();
        m.poke(0, 11);
        m.poke(4095, 12);
        for (int a : NO_BYTES) {
            due.is("poke(" + a + ")", m.poke(a, 99), false);
            due.is("peek(" + a + ")", m.peek(a), -1);
        }
        due.is("peek(0)", m.peek(0), 11);
        due.is("peek(4095)", m.peek(4095), 12);
    }

    private static void bytesAreWhatLoadsSee(Due due) {
        WordMachine m = Words.machine(Words.load(2, 1, 0, 8), Words.store(2, 2, 0, 12));
        m.poke(8, 0x81);
        m.poke(9, 0x92);
        m.poke(10, 0xA3);
        m.poke(11, 0xB4);
        m.put(2, 0xC1D2E3F4);
        due.is("run(2)", m.run(2), 0);
        due.is("get(1), the lowest byte first", m.get(1), 0xB4A39281);
        due.is("peek(12)", m.peek(12), 0xF4);
        due.is("peek(13)", m.peek(13), 0xE3);
        due.is("peek(14)", m.peek(14), 0xD2);
        due.is("peek(15)", m.peek(15), 0xC1);
    }
}
