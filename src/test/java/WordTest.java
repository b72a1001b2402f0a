/** Promise 2: one more word of code, at most 1024. */
public final class WordTest {
    public static void main(String[] args) {
        Due due = new Due();
        wordsComeInTheirOrder(due);
        codeGrowsBetweenRuns(due);
        codeIsFullAt1024(due);
        due.end();
    }

    private static void wordsComeInTheirOrder(Due due) {
        WordMachine m = new WordMachine();
        for (int i = 1; i <= 200; i++) {
            due.is("word, number " + i, m.word(Words.number(0, i % 31 + 1, 0, i)), i);
        }
        due.is("run(200)", m.run(200), 0);
        due.is("run(1) behind the last", m.run(1), 2);
        due.is("pc()", m.pc(), 800);
        for (int r = 1; r < 32; r++) {
            int last = 0;
            for (int i = 1; i <= 200; i++) {
                last = i % 31 + 1 == r ? i : last;
            }
            due.is("get(" + r + ")", m.get(r), last);
        }
    }

    private static void codeGrowsBetweenRuns(Due due) {
        WordMachine m = Words.machine(Words.number(0, 1, 1, 1));
        due.is("run(9)", m.run(9), 2);
        due.is("word of any bits", m.word(-1), 2);
        due.is("run(9)", m.run(9), 3);
        due.is("word(115)", m.word(Words.ASK), 3);
        due.is("go(8)", m.go(8), true);
        due.is("run(9)", m.run(9), 1);
        due.is("get(1)", m.get(1), 1);
    }

    // This takes more than the 512 calls of which answers are promised; there is no shorter way to 1024 words.
    private static void codeIsFullAt1024(Due due) {
        WordMachine m = new WordMachine();
        for (int i = 1; i <= 1024; i++) {
            due.is("word, number " + i, m.word(Words.number(0, 1, 1, 1)), i);
        }
        due.is("word, number 1025", m.word(Words.ASK), -1);
        due.is("word, number 1026", m.word(Words.ASK), -1);
        due.is("go(4092)", m.go(4092), true);
        due.is("run(1)", m.run(1), 0);
        due.is("run(1) behind 1024 words", m.run(1), 2);
        due.is("pc()", m.pc(), 4096);
    }
}
