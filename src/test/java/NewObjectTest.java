/** Promise 1: no code, all 0. */
public final class NewObjectTest {
    public static void main(String[] args) {
        Due due = new Due();
        WordMachine m = new WordMachine();
        due.is("pc()", m.pc(), 0);
        due.is("steps()", m.steps(), 0);
        for (int r = 0; r < 32; r++) {
            due.is("get(" + r + ")", m.get(r), 0);
        }
        due.is("run(1) without code", m.run(1), 2);
        due.is("word(115), the first", m.word(115), 1);
        for (int from = 0; from < 4096; from += 256) {
            WordMachine fresh = new WordMachine();
            for (int a = from; a < from + 256; a++) {
                due.is("peek(" + a + ")", fresh.peek(a), 0);
            }
        }
        twoObjectsShareNothing(due);
        due.end();
    }

    private static void twoObjectsShareNothing(Due due) {
        WordMachine one = new WordMachine();
        one.word(Words.number(0, 1, 0, 1));
        one.put(5, 5);
        one.poke(5, 5);
        one.run(1);
        WordMachine other = new WordMachine();
        due.is("another's get(5)", other.get(5), 0);
        due.is("another's get(1)", other.get(1), 0);
        due.is("another's peek(5)", other.peek(5), 0);
        due.is("another's pc()", other.pc(), 0);
        due.is("another's steps()", other.steps(), 0);
        due.is("another's run(1)", other.run(1), 2);
    }
}
