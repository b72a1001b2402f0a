/** The edges that the last sentences of "Terms" name: no instructions, PC behind a step, and why it stops. */
public final class StopEdgeTest {
    private static final int LEAST = Integer.MIN_VALUE;
    private static final int MOST = Integer.MAX_VALUE;
    private static final Due DUE = new Due();

    public static void main(String[] args) {
        onlyOneWordAsks();
        allOtherOpsAreNone();
        allOtherTAndSAreNone();
        pcGoesOnBy4();
        stop2OutsideTheCode();
        stop2NoMultipleOf4();
        stop3();
        stop4();
        stop1();
        itStopsBeforeAStep();
        theFirstReasonThatHolds();
        aStopIsNotForEver();
        DUE.end();
    }

    private static void stops(int w, int reason) {
        String name = "run(1) of " + Integer.toHexString(w);
        State.nothingDone(DUE, name, () -> Words.busy(w), m -> m.run(1), reason);
    }

    private static void onlyOneWordAsks() {
        DUE.sentence("OP 0x73: 0x00000073 alone: it ASKS");
        for (int bit = 7; bit < 32; bit++) {
            stops(0x73 | 1 << bit, 3);
        }
        stops(0xFFFFFFF3, 3);
    }

    private static void allOtherOpsAreNone() {
        DUE.sentence("All others are NO INSTRUCTIONS: OP");
        String known = " 3 13 17 23 33 37 63 67 6f 73 ";
        for (int op = 0; op < 128; op++) {
            if (!known.contains(" " + Integer.toHexString(op) + " ")) {
                DUE.is("run(1) of OP " + op, Words.machine(op).run(1), 3);
                DUE.is("run(1) of OP " + op + " with all other bits", Words.machine(op | -128).run(1), 3);
            }
        }
        stops(0, 3);
        stops(-1, 3);
        stops(0x12, 3);
        stops(0x32, 3);
    }

    private static void allOtherTAndSAreNone() {
        DUE.sentence("All others are NO INSTRUCTIONS: T and S");
        for (int s = 0; s < 128; s++) {
            for (int t = 0; t < 8; t++) {
                boolean moves = t == 1 || t == 5;
                boolean number = !moves || s == 0 || t == 5 && s == 32;
                boolean register = s == 0 || s == 1 || s == 32 && (t == 0 || t == 5);
                DUE.is("run(1) of 0x13 T " + t + " S " + s, why(Words.fields(0x13, 5, t, 6, 7, s)), number ? 0 : 3);
                DUE.is("run(1) of 0x33 T " + t + " S " + s, why(Words.fields(0x33, 5, t, 6, 7, s)), register ? 0 : 3);
            }
        }
        int[] others = {Words.load(3, 5, 0, 0), Words.load(6, 5, 0, 0), Words.load(7, 5, 0, 0), Words.store(3, 5, 0, 0),
            Words.store(4, 5, 0, 0), Words.store(5, 5, 0, 0), Words.store(6, 5, 0, 0), Words.store(7, 5, 0, 0),
            Words.branch(2, 0, 0, 8), Words.branch(3, 0, 0, 8), Words.withI(0x67, 5, 1, 0, 8),
            Words.fields(0x13, 5, 1, 6, 7, 32), Words.fields(0x13, 5, 1, 6, 7, 1), Words.fields(0x13, 5, 5, 6, 7, 1),
            Words.fields(0x13, 5, 5, 6, 7, 33), Words.register(32, 1, 5, 6, 7), Words.register(32, 4, 5, 6, 7),
            Words.register(2, 0, 5, 6, 7), Words.register(33, 0, 5, 6, 7), Words.register(64, 0, 5, 6, 7)};
        for (int w : others) {
            stops(w, 3);
        }
    }

    private static int why(int w) {
        return Words.machine(w).run(1);
    }

    private static void pcGoesOnBy4() {
        DUE.sentence("Behind all but branches, jumps and what stops PC goes on by 4");
        int[] words = {Words.number(0, 5, 6, 1), Words.fields(0x13, 5, 1, 6, 7, 0), Words.fields(0x13, 5, 5, 6, 7, 32),
            Words.register(0, 0, 5, 6, 7), Words.register(32, 0, 5, 6, 7), Words.register(1, 4, 5, 6, 0),
            0xFFFFF2B7, 0xFFFFF297, Words.load(2, 5, 0, 4), Words.store(2, 5, 0, 4)};
        for (int w : words) {
            WordMachine m = Words.busy(w);
            DUE.is("run(1) of " + Integer.toHexString(w), m.run(1), 0);
            DUE.is("pc() behind " + Integer.toHexString(w), m.pc(), 8);
            DUE.is("steps() behind " + Integer.toHexString(w), m.steps(), 2);
        }
    }

    private static void stop2OutsideTheCode() {
        DUE.sentence("2 PC is no place of a word of the code");
        State.nothingDone(DUE, "run(1) without code", WordMachine::new, m -> m.run(1), 2);
        State.nothingDone(DUE, "run(1) behind the last word", () -> Words.busy(), m -> m.run(1), 2);
        int[] places = {8, 12, 4092, 4096, 65536, -4, -8, LEAST, MOST - 3};
        for (int a : places) {
            State.nothingDone(DUE, "run(1) at " + a, () -> {
                WordMachine m = Words.busy(Words.ASK);
                m.go(a);
                return m;
            }, m -> m.run(1), 2);
        }
        WordMachine m = Words.machine(Words.ASK, Words.number(0, 1, 0, 1));
        m.go(4);
        DUE.is("run(1) at the last word", m.run(1), 0);
    }

    // "Terms" call PC a multiple of 4, and yet name this stop: the jump is done, and the next step stops.
    private static void stop2NoMultipleOf4() {
        DUE.sentence("2 PC is .. (or no multiple of 4)");
        int[] words = {Words.branch(0, 0, 0, 2), Words.branch(0, 0, 0, -2), Words.jump(1, 2), Words.jump(1, -2),
            Words.jumpTo(1, 0, 6), Words.jumpTo(1, 0, 7), Words.jumpTo(1, 0, 2)};
        int[] due = {6, 2, 6, 2, 6, 6, 2};
        for (int k = 0; k < words.length; k++) {
            int w = words[k];
            WordMachine m = Words.busy(w, Words.ASK, Words.ASK);
            DUE.is("run(1) of " + Integer.toHexString(w), m.run(1), 0);
            DUE.is("pc() behind " + Integer.toHexString(w), m.pc(), due[k]);
            DUE.is("steps() behind " + Integer.toHexString(w), m.steps(), 2);
            State.nothingDone(DUE, "run(1) at " + due[k], () -> {
                WordMachine there = Words.busy(w, Words.ASK, Words.ASK);
                there.run(1);
                return there;
            }, there -> there.run(1), 2);
        }
    }

    private static void stop3() {
        DUE.sentence("It stops before a step, with nothing done, if: .. 3 the word is no instruction");
        stops(0, 3);
        stops(0x00100073, 3);
        stops(Words.register(2, 0, 5, 6, 7), 3);
        stops(Words.branch(2, 0, 0, 8), 3);
    }

    private static void stop4() {
        DUE.sentence("It stops before a step, with nothing done, if: .. 4 an address ..");
        stops(Words.load(2, 5, 0, -4), 4);
        stops(Words.load(2, 5, 0, 2), 4);
        stops(Words.load(0, 0, 0, -1), 4);
        stops(Words.store(2, 5, 0, -4), 4);
        stops(Words.store(2, 5, 0, 2), 4);
        stops(Words.store(1, 5, 0, 1), 4);
    }

    private static void stop1() {
        DUE.sentence("1 it asks (PC goes on by 4 then: the only thing done)");
        State.onlyPcAndSteps(DUE, "run(1) of 0x73", () -> Words.busy(Words.ASK), m -> m.run(1), 1, 4, 1);
        State.onlyPcAndSteps(DUE, "run(1000) of 0x73 twice", () -> Words.busy(Words.ASK, Words.ASK), m -> m.run(1000),
            1, 4, 1);
    }

    private static void itStopsBeforeAStep() {
        DUE.sentence("It stops before a step");
        int[] last = {0, Words.load(2, 5, 0, 2)};
        int[] reason = {3, 4};
        for (int k = 0; k < last.length; k++) {
            WordMachine m = Words.machine(Words.number(0, 1, 1, 1), Words.number(0, 1, 1, 1), last[k]);
            DUE.is("run(2), just to the word that stops", m.run(2), 0);
            DUE.is("run(0) at it", m.run(0), 0);
            DUE.is("run(1) at it", m.run(1), reason[k]);
            m.go(0);
            DUE.is("run(3), to it and no further", m.run(3), reason[k]);
            DUE.is("get(1)", m.get(1), 4);
            DUE.is("steps()", m.steps(), 4);
            DUE.is("pc()", m.pc(), 8);
        }
        WordMachine m = Words.machine(Words.number(0, 1, 1, 1));
        DUE.is("run(1), just to the end of the code", m.run(1), 0);
        DUE.is("run(0) there", m.run(0), 0);
        DUE.is("run(1) there", m.run(1), 2);
        WordMachine asks = Words.machine(Words.number(0, 1, 1, 1), Words.ASK);
        DUE.is("run(1), just to the word that asks", asks.run(1), 0);
        DUE.is("run(0) at it", asks.run(0), 0);
        DUE.is("run(1) at it", asks.run(1), 1);
    }

    private static void theFirstReasonThatHolds() {
        DUE.sentence("3 the word is no instruction; 4 an address .. of what is loaded or stored");
        stops(Words.load(3, 5, 0, -1), 3);
        stops(Words.load(6, 5, 0, -1), 3);
        stops(Words.load(7, 5, 0, 1), 3);
        stops(Words.store(3, 5, 0, -1), 3);
        stops(Words.store(7, 5, 0, 1), 3);
    }

    private static void aStopIsNotForEver() {
        DUE.sentence("It stops before a step: what stopped it may change");
        WordMachine m = Words.machine(Words.load(0, 5, 6, 0), 0);
        m.put(6, -1);
        m.poke(0, 9);
        DUE.is("run(1), an address outside", m.run(1), 4);
        m.put(6, 0);
        DUE.is("run(1), now inside", m.run(1), 0);
        DUE.is("get(5)", m.get(5), 9);
        DUE.is("run(1), no instruction", m.run(1), 3);
        m.go(8);
        DUE.is("run(1), no word yet", m.run(1), 2);
        m.word(Words.ASK);
        DUE.is("run(1), now there is one", m.run(1), 1);
        DUE.is("steps()", m.steps(), 2);
    }
}
