/** Promises 1 to 10: many programs, the same ones at every run, each compared with the Model. */
public final class ModelTest {
    private static final int PROGRAMS = 4000;

    private static final Due DUE = new Due();
    private static final Chance CHANCE = new Chance(20261116);
    private static final int[] REASONS = new int[5];

    public static void main(String[] args) {
        for (int program = 0; program < PROGRAMS; program++) {
            compare("program " + program + ": ");
        }
        for (int reason = 0; reason < REASONS.length; reason++) {
            DUE.is("programs met reason " + reason, REASONS[reason] > 100, true);
        }
        DUE.end();
    }

    private static void compare(String program) {
        WordMachine m = new WordMachine();
        Model model = new Model();
        fill(m, model);
        // Behind a stop both go on at another word, so that one bad word does not hide all that follow it.
        for (int round = 0; round < 30; round++) {
            int n = CHANCE.next(12);
            int want = model.run(n);
            REASONS[want]++;
            DUE.is(program + "run(" + n + ")", m.run(n), want);
            DUE.is(program + "pc()", m.pc(), model.pc());
            DUE.is(program + "steps()", m.steps(), model.steps());
            if (want > 1) {
                int a = 4 * CHANCE.next(Chance.PLACES);
                model.go(a);
                m.go(a);
            }
        }
        for (int r = 0; r < 32; r++) {
            DUE.is(program + "get(" + r + ")", m.get(r), model.get(r));
        }
        for (int k = 0; k < 160; k++) {
            DUE.is(program + "peek(" + watched(k) + ")", m.peek(watched(k)), model.peek(watched(k)));
        }
    }

    private static void fill(WordMachine m, Model model) {
        for (int i = 0; i < Chance.PLACES; i++) {
            int w = CHANCE.anyWord();
            m.word(w);
            model.word(w);
        }
        for (int r = 1; r < 32; r++) {
            int v = CHANCE.anyValue();
            m.put(r, v);
            model.put(r, v);
        }
        for (int k = 0; k < 64; k++) {
            int v = CHANCE.next(256);
            m.poke(watched(k), v);
            model.poke(watched(k), v);
        }
    }

    private static int watched(int k) {
        return k % 2 == 0 ? k / 2 : 4095 - k / 2;
    }
}
