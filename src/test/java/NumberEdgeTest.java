/** The edges that "Terms" names for OP 0x13, 0x33, 0x37 and 0x17: signs, wraps, moves, products and quotients. */
public final class NumberEdgeTest {
    private static final int LEAST = Integer.MIN_VALUE;
    private static final int MOST = Integer.MAX_VALUE;
    private static final Due DUE = new Due();

    public static void main(String[] args) {
        iHasItsSign();
        numbersWrap();
        belowIsWithSign();
        belowWithoutSign();
        movedByTheNumberY();
        movedByTheLowest5BitsOfY();
        zerosOrTheSignCome();
        theLower32BitsOfAProduct();
        theUpper32BitsOfAProduct();
        quotientsAreCut();
        quotientsWithoutSign();
        divisionBy0();
        theLeastByMinus1();
        theUpperBitsOfAWord();
        DUE.end();
    }

    private static void tells(int w, int x, int y, int want) {
        WordMachine m = Words.busy(w);
        m.put(6, x);
        m.put(7, y);
        String call = Integer.toHexString(w) + " with x " + x + " and y " + y;
        DUE.is(call + ": run(1)", m.run(1), 0);
        DUE.is(call + ": get(5)", m.get(5), want);
        DUE.is(call + ": pc()", m.pc(), 8);
        DUE.is(call + ": steps()", m.steps(), 2);
    }

    private static void number(int t, int x, int i, int want) {
        tells(Words.number(t, 5, 6, i), x, 0, want);
    }

    private static void moved(int s, int t, int x, int by, int want) {
        tells(Words.fields(0x13, 5, t, 6, by, s), x, 0, want);
    }

    private static void registers(int s, int t, int x, int y, int want) {
        tells(Words.register(s, t, 5, 6, 7), x, y, want);
    }

    private static void iHasItsSign() {
        DUE.sentence("I is bits 20 .. 31 with their sign");
        tells(0x7FF00013 | 5 << 7, 0, 0, 2047);
        tells(0x80000013 | 5 << 7, 0, 0, -2048);
        tells(0x80100013 | 5 << 7, 0, 0, -2047);
        tells(0xFFF00013 | 5 << 7, 0, 0, -1);
        tells(0x00100013 | 5 << 7, 0, 0, 1);
        number(2, -2049, -2048, 1);
        number(2, -2048, -2048, 0);
        number(3, -2049, -2048, 1);
        number(3, -2048, -2048, 0);
        number(3, 2048, -2048, 1);
        number(4, 0, -2048, 0xFFFFF800);
        number(4, -1, 2047, 0xFFFFF800);
        number(6, 0, -2048, 0xFFFFF800);
        number(6, 0, 2047, 0x7FF);
        number(7, -1, -2048, 0xFFFFF800);
        number(7, -1, 2047, 0x7FF);
    }

    private static void numbersWrap() {
        DUE.sentence("Numbers wrap");
        number(0, MOST, 1, LEAST);
        number(0, MOST, 2047, LEAST + 2046);
        number(0, LEAST, -1, MOST);
        number(0, LEAST, -2048, MOST - 2047);
        registers(0, 0, MOST, 1, LEAST);
        registers(0, 0, MOST, MOST, -2);
        registers(0, 0, LEAST, LEAST, 0);
        registers(0, 0, -1, 1, 0);
        registers(32, 0, LEAST, 1, MOST);
        registers(32, 0, MOST, -1, LEAST);
        registers(32, 0, 0, LEAST, LEAST);
        registers(1, 0, MOST, 2, -2);
        registers(1, 0, LEAST, 2, 0);
        registers(1, 0, LEAST, -1, LEAST);
        registers(1, 0, MOST, MOST, 1);
        tells(0xFFFFF017 | 5 << 7, 0, 0, 4 - 4096);
        tells(0x80000017 | 5 << 7, 0, 0, LEAST + 4);
        tells(0x7FFFF017 | 5 << 7, 0, 0, 0x7FFFF004);
    }

    private static void belowIsWithSign() {
        DUE.sentence("2 1 if x is below I, else 0; .. 2 1 if x is below y");
        int[][] cases = {{6, 7, 1}, {7, 7, 0}, {8, 7, 0}, {-1, 0, 1}, {0, 0, 0}, {0, -1, 0}, {-1, -1, 0}, {-2, -1, 1},
            {LEAST, 7, 1}, {MOST, 7, 0}, {LEAST, -1, 1}, {MOST, -1, 0}};
        for (int[] c : cases) {
            number(2, c[0], c[1], c[2]);
            registers(0, 2, c[0], c[1], c[2]);
        }
        registers(0, 2, LEAST, MOST, 1);
        registers(0, 2, MOST, LEAST, 0);
        registers(0, 2, LEAST, LEAST, 0);
        registers(0, 2, LEAST, LEAST + 1, 1);
    }

    private static void belowWithoutSign() {
        DUE.sentence("3 the same without sign; .. 3 without sign");
        int[][] cases = {{6, 7, 1}, {7, 7, 0}, {8, 7, 0}, {-1, 0, 0}, {0, 0, 0}, {0, -1, 1}, {-1, -1, 0}, {-2, -1, 1},
            {LEAST, 7, 0}, {MOST, 7, 0}, {LEAST, -1, 1}, {MOST, -1, 1}};
        for (int[] c : cases) {
            number(3, c[0], c[1], c[2]);
            registers(0, 3, c[0], c[1], c[2]);
        }
        registers(0, 3, LEAST, MOST, 0);
        registers(0, 3, MOST, LEAST, 1);
        registers(0, 3, LEAST, LEAST, 0);
        registers(0, 3, LEAST, LEAST + 1, 1);
    }

    private static void movedByTheNumberY() {
        DUE.sentence("1 (S 0) x moved left by Y; 5 (S 0) moved right");
        moved(0, 1, 0x80000003, 0, 0x80000003);
        moved(0, 1, 0x80000003, 1, 6);
        moved(0, 1, 0x80000003, 31, LEAST);
        moved(0, 5, 0x80000003, 0, 0x80000003);
        moved(0, 5, 0x80000003, 1, 0x40000001);
        moved(0, 5, 0x80000003, 31, 1);
        moved(32, 5, 0x80000003, 0, 0x80000003);
        moved(32, 5, 0x80000003, 1, 0xC0000001);
        moved(32, 5, 0x80000003, 31, -1);
    }

    private static void movedByTheLowest5BitsOfY() {
        DUE.sentence("1 x moved left by the lowest 5 bits of y");
        int[][] left = {{0, 0x80000003}, {1, 6}, {31, LEAST}, {32, 0x80000003}, {33, 6}, {63, LEAST}, {-1, LEAST},
            {-32, 0x80000003}, {LEAST, 0x80000003}, {MOST, LEAST}};
        for (int[] c : left) {
            registers(0, 1, 0x80000003, c[0], c[1]);
        }
        DUE.sentence("5 moved right, zeros; .. 5 moved right, the sign");
        int[][] right = {{0, 0x80000003, 0x80000003}, {1, 0x40000001, 0xC0000001}, {31, 1, -1},
            {32, 0x80000003, 0x80000003}, {33, 0x40000001, 0xC0000001}, {63, 1, -1}, {-1, 1, -1},
            {-32, 0x80000003, 0x80000003}, {LEAST, 0x80000003, 0x80000003}, {MOST, 1, -1}};
        for (int[] c : right) {
            registers(0, 5, 0x80000003, c[0], c[1]);
            registers(32, 5, 0x80000003, c[0], c[2]);
        }
    }

    private static void zerosOrTheSignCome() {
        DUE.sentence("moved right, zeros coming, (S 32) the sign coming");
        moved(0, 5, -1, 31, 1);
        moved(0, 5, MOST, 30, 1);
        moved(0, 5, MOST, 31, 0);
        moved(32, 5, -1, 31, -1);
        moved(32, 5, LEAST, 30, -2);
        moved(32, 5, MOST, 30, 1);
        moved(32, 5, MOST, 31, 0);
    }

    private static void theLower32BitsOfAProduct() {
        DUE.sentence("S 1: 0 the lower 32 bits of x * y");
        registers(1, 0, 0, LEAST, 0);
        registers(1, 0, -1, -1, 1);
        registers(1, 0, -1, MOST, LEAST + 1);
        registers(1, 0, LEAST, LEAST, 0);
        registers(1, 0, LEAST, 3, LEAST);
        registers(1, 0, 0x10000, 0x10000, 0);
        registers(1, 0, 0xFFFF, 0x10001, -1);
    }

    private static void theUpper32BitsOfAProduct() {
        DUE.sentence("1, 2, 3 the upper ones: of both with sign, of x with and y without, of both without");
        int[][] cases = {
            {0, -1, 0, 0, 0}, {1, -1, -1, 0, 0}, {-1, 1, -1, -1, 0}, {-1, -1, 0, -1, -2},
            {MOST, MOST, 0x3FFFFFFF, 0x3FFFFFFF, 0x3FFFFFFF},
            {LEAST, LEAST, 0x40000000, 0xC0000000, 0x40000000},
            {LEAST, MOST, 0xC0000000, 0xC0000000, 0x3FFFFFFF},
            {MOST, LEAST, 0xC0000000, 0x3FFFFFFF, 0x3FFFFFFF},
            {LEAST, -1, 0, LEAST, MOST}, {-1, LEAST, 0, -1, MOST},
            {MOST, -1, -1, MOST - 1, MOST - 1}, {-1, MOST, -1, -1, MOST - 1},
            {0x10000, 0x10000, 1, 1, 1}, {0xFFFF, 0x10001, 0, 0, 0},
        };
        for (int[] c : cases) {
            registers(1, 1, c[0], c[1], c[2]);
            registers(1, 2, c[0], c[1], c[3]);
            registers(1, 3, c[0], c[1], c[4]);
        }
    }

    private static void quotientsAreCut() {
        DUE.sentence("4 x / y cut, .. 6 the rest");
        int[][] cases = {{7, 2, 3, 1}, {-7, 2, -3, -1}, {7, -2, -3, 1}, {-7, -2, 3, -1}, {1, 2, 0, 1}, {-1, 2, 0, -1},
            {6, 3, 2, 0}, {-6, 3, -2, 0}, {0, 5, 0, 0}, {LEAST, 1, LEAST, 0}, {LEAST, 2, -0x40000000, 0},
            {LEAST, MOST, -1, -1}, {MOST, LEAST, 0, MOST}, {LEAST, LEAST, 1, 0}, {MOST, -1, -MOST, 0}};
        for (int[] c : cases) {
            registers(1, 4, c[0], c[1], c[2]);
            registers(1, 6, c[0], c[1], c[3]);
        }
    }

    private static void quotientsWithoutSign() {
        DUE.sentence("5 without sign; .. 7 without sign");
        int[][] cases = {{7, 2, 3, 1}, {-7, 2, MOST - 3, 1}, {7, -2, 0, 7}, {-7, -2, 0, -7}, {-1, -2, 1, 1},
            {-1, 1, -1, 0}, {-1, -1, 1, 0}, {-1, LEAST, 1, MOST}, {LEAST, MOST, 1, 1}, {MOST, LEAST, 0, MOST},
            {LEAST, 1, LEAST, 0}, {LEAST, -1, 0, LEAST}, {-1, 10, 429496729, 5}};
        for (int[] c : cases) {
            registers(1, 5, c[0], c[1], c[2]);
            registers(1, 7, c[0], c[1], c[3]);
        }
    }

    private static void divisionBy0() {
        DUE.sentence("By 0: -1 (4, 5), x (6, 7)");
        int[] values = {0, 1, -1, 7, -7, MOST, LEAST};
        for (int x : values) {
            registers(1, 4, x, 0, -1);
            registers(1, 5, x, 0, -1);
            registers(1, 6, x, 0, x);
            registers(1, 7, x, 0, x);
        }
        tells(Words.register(1, 4, 5, 6, 0), 12, 3, -1);
        tells(Words.register(1, 6, 5, 6, 0), 12, 5, 12);
    }

    private static void theLeastByMinus1() {
        DUE.sentence("the least by -1: itself, rest 0");
        registers(1, 4, LEAST, -1, LEAST);
        registers(1, 6, LEAST, -1, 0);
        registers(1, 4, LEAST + 1, -1, MOST);
        registers(1, 6, LEAST + 1, -1, 0);
    }

    private static void theUpperBitsOfAWord() {
        DUE.sentence("OP 0x37: bits 12 .. 31 of w, the others 0; 0x17: PC + that");
        int[] uppers = {0, 0x00001000, 0x7FFFF000, 0x80000000, 0xFFFFF000, 0x12345000};
        for (int upper : uppers) {
            tells(upper | 0x37 | 5 << 7, 0, 0, upper);
            tells(upper | 0x17 | 5 << 7, 0, 0, upper + 4);
        }
        WordMachine m = Words.machine(0x80000FB7, 0x80000F17);
        DUE.is("run(2)", m.run(2), 0);
        DUE.is("get(31)", m.get(31), LEAST);
        DUE.is("get(30)", m.get(30), LEAST + 4);
    }
}
