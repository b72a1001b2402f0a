/** Compares answers with what is due, prints every wrong one, and ends the program with 1 if there was one. */
final class Due {
    private int wrong = 0;
    private String sentence = "";

    /** The document's sentence that the next answers are looked at for; it is told with every wrong one. */
    void sentence(String words) {
        sentence = "\"" + words + "\": ";
    }

    void is(String call, long got, long want) {
        if (got != want) {
            wrong++;
            System.out.println(sentence + call + " answered " + got + ", due is " + want);
        }
    }

    void is(String call, boolean got, boolean want) {
        is(call, got ? 1 : 0, want ? 1 : 0);
    }

    void end() {
        if (wrong != 0) {
            System.out.println(wrong + " answers are not as due");
            System.exit(1);
        }
    }
}
