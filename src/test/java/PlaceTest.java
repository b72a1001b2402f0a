/** Promises 7 and 8: go and pc, and where a step finds no word. */
public final class PlaceTest {
    public static void main(String[] args) {
        Due due = new Due();
        multiplesOf4AreTaken(due);
        othersAreRefused(due);
        onlyPlacesOfWordsAreDone(due);
        due.end();
    }

    private static void multiplesOf4AreTaken(Due due) {
        WordMachine m = new WordMachine();
        int[] places = {4, 0, 8, 4092, 4096, -4, 1 << 20, Integer.MIN_VALUE, Integer.MAX_VALUE - 3};
        for (int a : places) {
            due.is("go(" + a + ")", m.go(a), true);
            due.is("pc()", m.pc(), a);
        }
        due.is("steps()", m.steps(), 0);
    }

    private static void othersAreRefused(Due due) {
        WordMachine m = new WordMachine();
        m.go(16);
        int[] places = {1, 2, 3, 5, 6, 7, 17, 18, 19, -1, -2, -3, Integer.MAX_VALUE, Integer.MIN_VALUE + 2};
        for (int a : places) {
            due.is("go(" + a + ")", m.go(a), false);
            due.is("pc() after go(" + a + ")", m.pc(), 16);
        }
    }

    private static void onlyPlacesOfWordsAreDone(Due due) {
        WordMachine m = Words.machine(Words.number(0, 1, 1, 1), Words.number(0, 1, 1, 1));
        int[] outside = {8, 12, 4096, -4, -8, Integer.MIN_VALUE, Integer.MAX_VALUE - 3};
        for (int a : outside) {
            m.go(a);
            due.is("run(1) at " + a, m.run(1), 2);
            due.is("pc() after a stop", m.pc(), a);
        }
        due.is("get(1)", m.get(1), 0);
        due.is("steps()", m.steps(), 0);
        m.go(4);
        due.is("run(1) at 4", m.run(1), 0);
        due.is("get(1)", m.get(1), 1);
        due.is("pc()", m.pc(), 8);
    }
}
