/** Promises 9 and 10: run and steps, and the four reasons to stop. */
public final class RunTest {
    public static void main(String[] args) {
        Due due = new Due();
        wrongNumbersDoNothing(due);
        allStepsAreDone(due);
        aStepThatAsksCounts(due);
        aStepThatStopsDoesNothing(due);
        stepsAddUp(due);
        due.end();
    }

    private static void wrongNumbersDoNothing(Due due) {
        WordMachine m = Words.machine(Words.number(0, 1, 1, 1), Words.jump(0, -4));
        int[] numbers = {-1, -2, 1001, 1002, Integer.MAX_VALUE, Integer.MIN_VALUE};
        for (int n : numbers) {
            due.is("run(" + n + ")", m.run(n), -1);
        }
        due.is("run(0)", m.run(0), 0);
        due.is("steps()", m.steps(), 0);
        due.is("pc()", m.pc(), 0);
        due.is("get(1)", m.get(1), 0);
        m.go(400);
        due.is("run(0) where there is no code", m.run(0), 0);
        due.is("run(-1) where there is no code", m.run(-1), -1);
    }

    private static void allStepsAreDone(Due due) {
        WordMachine m = Words.machine(Words.number(0, 1, 1, 1), Words.jump(0, -4));
        due.is("run(1)", m.run(1), 0);
        due.is("pc()", m.pc(), 4);
        due.is("get(1)", m.get(1), 1);
        due.is("run(1000)", m.run(1000), 0);
        due.is("get(1)", m.get(1), 501);
        due.is("steps()", m.steps(), 1001);
        due.is("run(999)", m.run(999), 0);
        due.is("steps()", m.steps(), 2000);
        due.is("get(1)", m.get(1), 1000);
    }

    private static void aStepThatAsksCounts(Due due) {
        WordMachine m = Words.machine(Words.number(0, 1, 1, 1), Words.ASK, Words.number(0, 1, 1, 1));
        due.is("run(1) before it asks", m.run(1), 0);
        due.is("run(1) that asks", m.run(1), 1);
        due.is("pc()", m.pc(), 8);
        due.is("steps()", m.steps(), 2);
        due.is("get(1)", m.get(1), 1);
        due.is("run(1)", m.run(1), 0);
        due.is("get(1)", m.get(1), 2);
        due.is("run(5) at the end", m.run(5), 2);
        due.is("steps()", m.steps(), 3);
        m.go(0);
        due.is("run(2), the last asks", m.run(2), 1);
        due.is("steps()", m.steps(), 5);
        for (int r = 2; r < 32; r++) {
            due.is("get(" + r + ")", m.get(r), 0);
        }
    }

    private static void aStepThatStopsDoesNothing(Due due) {
        stopsAgain(due, 2, new int[] {});
        stopsAgain(due, 3, new int[] {0});
        stopsAgain(due, 3, new int[] {-1});
        stopsAgain(due, 3, new int[] {0x00100073});
        stopsAgain(due, 4, new int[] {Words.load(2, 1, 0, 2)});
        stopsAgain(due, 4, new int[] {Words.store(0, 1, 0, -1)});
    }

    private static void stopsAgain(Due due, int reason, int[] last) {
        WordMachine m = Words.machine(Words.number(0, 1, 0, 5), Words.number(0, 2, 0, 6));
        for (int w : last) {
            m.word(w);
        }
        String why = "for reason " + reason;
        due.is("run(2) " + why, m.run(2), 0);
        for (int n = 1; n <= 1000; n += 333) {
            due.is("run(" + n + ") " + why, m.run(n), reason);
            due.is("pc() " + why, m.pc(), 8);
            due.is("steps() " + why, m.steps(), 2);
            due.is("get(1) " + why, m.get(1), 5);
        }
        m.go(0);
        due.is("run(1000) " + why, m.run(1000), reason);
        due.is("steps() " + why, m.steps(), 4);
    }

    private static void stepsAddUp(Due due) {
        WordMachine m = Words.machine(Words.jump(0, 0));
        for (int i = 1; i <= 250; i++) {
            due.is("run(1000)", m.run(1000), 0);
            due.is("steps()", m.steps(), i * 1000);
        }
    }
}
