/** Promises 1 to 10 and "at most 512 calls": all calls of the face in any order, with any arguments. */
public final class CallsTest {
    private static final int OBJECTS = 400;
    private static final int PROMISED_CALLS = 512;
    private static final int KINDS = 9;

    private static final Due DUE = new Due();
    private static final Chance CHANCE = new Chance(512);
    private static final int[] REASONS = new int[5];

    public static void main(String[] args) {
        DUE.sentence("An object is used for at most 512 calls after it has been made");
        for (int object = 0; object < OBJECTS; object++) {
            allAnswersAreTheModels("object " + object + ", call ");
        }
        for (int reason = 0; reason < REASONS.length; reason++) {
            DUE.is("runs met reason " + reason, REASONS[reason] > 100, true);
        }
        twoObjectsAnswerTheSame();
        laterCallsEndToo();
        DUE.end();
    }

    private static void allAnswersAreTheModels(String object) {
        WordMachine m = new WordMachine();
        Model model = new Model();
        for (int call = 1; call <= PROMISED_CALLS; call++) {
            compare(object + call + ": ", m, model);
        }
    }

    private static void compare(String at, WordMachine m, Model model) {
        int a = place();
        int r = register();
        int v = CHANCE.anyValue();
        switch (CHANCE.next(KINDS)) {
            case 0 -> {
                int w = CHANCE.anyWord();
                DUE.is(at + "word(" + w + ")", m.word(w), model.word(w));
            }
            case 1 -> DUE.is(at + "put(" + r + ", " + v + ")", m.put(r, v), model.put(r, v));
            case 2 -> DUE.is(at + "get(" + r + ")", m.get(r), model.get(r));
            case 3 -> DUE.is(at + "poke(" + a + ", " + v + ")", m.poke(a, v), model.poke(a, v));
            case 4 -> DUE.is(at + "peek(" + a + ")", m.peek(a), model.peek(a));
            case 5 -> DUE.is(at + "go(" + a + ")", m.go(a), model.go(a));
            case 6 -> DUE.is(at + "pc()", m.pc(), model.pc());
            case 7 -> run(at, m, model);
            default -> DUE.is(at + "steps()", m.steps(), model.steps());
        }
    }

    private static void run(String at, WordMachine m, Model model) {
        int n = number();
        int want = model.run(n);
        if (want >= 0) {
            REASONS[want]++;
        }
        DUE.is(at + "run(" + n + ")", m.run(n), want);
    }

    private static int place() {
        return switch (CHANCE.next(8)) {
            case 0 -> CHANCE.edge();
            case 1 -> CHANCE.anyInt();
            case 2 -> 4098 - CHANCE.next(16);
            case 3 -> CHANCE.next(16) - 3;
            default -> CHANCE.next(48) * 4;
        };
    }

    private static int register() {
        return CHANCE.next(12) == 0 ? CHANCE.edge() : CHANCE.next(36) - 2;
    }

    private static int number() {
        return switch (CHANCE.next(10)) {
            case 0 -> CHANCE.edge();
            case 1 -> CHANCE.one(-1, 0, 999, 1000, 1001);
            default -> CHANCE.next(24);
        };
    }

    private static void twoObjectsAnswerTheSame() {
        DUE.sentence("the same calls always give the same answers");
        WordMachine one = new WordMachine();
        WordMachine other = new WordMachine();
        Chance chance = new Chance(7);
        Chance again = new Chance(7);
        for (int call = 1; call <= PROMISED_CALLS; call++) {
            DUE.is("call " + call + " of another object", anyCall(one, chance), anyCall(other, again));
        }
    }

    // What these calls answer is free, but LANGUAGE.md, rule 7, lets none of them throw.
    private static void laterCallsEndToo() {
        WordMachine m = new WordMachine();
        for (int call = 0; call < 40 * PROMISED_CALLS; call++) {
            anyCall(m, CHANCE);
        }
    }

    private static long anyCall(WordMachine m, Chance chance) {
        int one = chance.anyValue();
        int two = chance.anyValue();
        return switch (chance.next(KINDS)) {
            case 0 -> m.word(chance.anyWord());
            case 1 -> m.put(one, two) ? 1 : 0;
            case 2 -> m.get(one);
            case 3 -> m.poke(one, two) ? 1 : 0;
            case 4 -> m.peek(one);
            case 5 -> m.go(one) ? 1 : 0;
            case 6 -> m.pc();
            case 7 -> m.run(chance.next(1000));
            default -> m.steps();
        };
    }
}
