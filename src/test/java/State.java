/** All that can be seen of a machine. It is looked at on machines made anew, so that none gets more than 512 calls. */
final class State {
    /** Makes a machine and brings it to where it is looked at: the same one each time. */
    interface Story {
        WordMachine told();
    }

    /** One more call; a boolean answer counts 1 or 0. */
    interface Call {
        long on(WordMachine m);
    }

    /** What a call is due to change: it is done to the state before the call. */
    interface Change {
        void on(State before);
    }

    private static final int BYTES_AT_ONCE = 256;

    final int[] registers = new int[32];
    final int[] bytes = new int[4096];
    int pc;
    int steps;
    int words;

    private State(Story story) {
        WordMachine m = story.told();
        for (int r = 0; r < registers.length; r++) {
            registers[r] = m.get(r);
        }
        pc = m.pc();
        steps = m.steps();
        words = m.word(0) - 1;
        for (int from = 0; from < bytes.length; from += BYTES_AT_ONCE) {
            WordMachine again = story.told();
            for (int a = from; a < from + BYTES_AT_ONCE; a++) {
                bytes[a] = again.peek(a);
            }
        }
    }

    /** The call answers what is due, and nothing is done. */
    static void nothingDone(Due due, String name, Story story, Call call, long want) {
        onlyThisDone(due, name, story, call, want, before -> { });
    }

    /** The call answers what is due; PC and the steps go on by so many, and nothing else is done. */
    static void onlyPcAndSteps(Due due, String name, Story story, Call call, long want, int byPc, int bySteps) {
        onlyThisDone(due, name, story, call, want, before -> {
            before.pc += byPc;
            before.steps += bySteps;
        });
    }

    /** The call answers what is due; the change is done, and nothing else. */
    static void onlyThisDone(Due due, String name, Story story, Call call, long want, Change change) {
        State expected = new State(story);
        change.on(expected);
        State after = new State(() -> {
            WordMachine m = story.told();
            due.is(name, call.on(m), want);
            return m;
        });
        due.is(name + ", then pc()", after.pc, expected.pc);
        due.is(name + ", then steps()", after.steps, expected.steps);
        due.is(name + ", then the words of code", after.words, expected.words);
        for (int r = 0; r < expected.registers.length; r++) {
            due.is(name + ", then get(" + r + ")", after.registers[r], expected.registers[r]);
        }
        for (int a = 0; a < expected.bytes.length; a++) {
            due.is(name + ", then peek(" + a + ")", after.bytes[a], expected.bytes[a]);
        }
    }
}
