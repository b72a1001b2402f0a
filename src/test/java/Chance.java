/** Words, numbers and places as if by chance, but the same ones at every run. */
final class Chance {
    static final int PLACES = 40;

    private static final int[] OPS = {0x13, 0x13, 0x33, 0x33, 0x33, 0x37, 0x17, 0x03, 0x03, 0x23, 0x23, 0x63, 0x63, 0x6F,
        0x67};
    private static final int[] EDGES = {0, 1, -1, 2, -2, 7, 31, 32, 64, 255, 256, 4088, 4092, 4096, 32767, 65535, 65536,
        Integer.MAX_VALUE, Integer.MIN_VALUE, Integer.MIN_VALUE + 1};

    private long seed;

    Chance(long seed) {
        this.seed = seed;
    }

    int next(int below) {
        seed = seed * 6364136223846793005L + 1442695040888963407L;
        return (int) ((seed >>> 33) % below);
    }

    int one(int... of) {
        return of[next(of.length)];
    }

    int anyInt() {
        return next(1 << 16) << 16 | next(1 << 16);
    }

    int edge() {
        return one(EDGES);
    }

    int anyValue() {
        return switch (next(4)) {
            case 0 -> edge();
            case 1 -> next(24) * 4;
            case 2 -> 4096 - next(40);
            default -> anyInt();
        };
    }

    /** Mostly short, so that what is loaded and where a jump goes mostly are there. */
    private int distance(int most) {
        return next(10) == 0 ? anyInt() : next(most + 1) * 2 - most;
    }

    /** Mostly an instruction, whose jumps mostly stay within the first PLACES words. */
    int anyWord() {
        int kind = next(40);
        if (kind == 0) {
            return anyInt();
        }
        if (kind == 1) {
            return Words.ASK;
        }
        int op = one(OPS);
        int d = next(32);
        int t = next(8);
        int x = next(8);
        int y = next(8);
        return switch (op) {
            case 0x13 -> t == 1 || t == 5 ? Words.fields(op, d, t, x, next(32), next(9) == 0 ? next(128) : 32 * next(2))
                : Words.withI(op, d, t, x, anyInt());
            case 0x33 -> Words.fields(op, d, t, x, y, next(20) == 0 ? next(128) : one(0, 1, 1, 32));
            case 0x03 -> Words.load(next(12) == 0 ? t : t % 3 + (t % 3 < 2 ? 4 * next(2) : 0), d, x, distance(8));
            case 0x23 -> Words.store(next(12) == 0 ? t : t % 3, y, x, distance(8));
            case 0x63 -> Words.branch(t, x, y, distance(20));
            case 0x6F -> Words.jump(d, distance(20));
            case 0x67 -> Words.withI(op, d, next(9) == 0 ? t : 0, next(3), next(PLACES) * 4 + next(2));
            default -> op | d << 7 | anyInt() << 12;
        };
    }
}
