/** Counts what is told wrong and ends the test with exit code 1 if anything was. */
final class Due {
    private final String name;
    private String sentence = "";
    private int told = 0;
    private int wrong = 0;

    Due(String name) {
        this.name = name;
    }

    /** What follows is held against these words of a promise; SentencesTest looks for them in the document. */
    void promise(int n, String words) {
        sentence = "promise " + n + ", \"" + words + "\": ";
    }

    /** What follows is held against these words of "Terms". */
    void terms(String words) {
        sentence = "Terms, \"" + words + "\": ";
    }

    /** What follows is held against these words of "What it is". */
    void intro(String words) {
        sentence = "What it is, \"" + words + "\": ";
    }

    void is(String what, long got, long want) {
        told++;
        if (got != want) {
            wrong++;
            System.out.println(name + ": " + sentence + what + " answered " + got + ", due is " + want);
        }
    }

    void holds(String what, boolean truth) {
        is(what, truth ? 1 : 0, 1);
    }

    void end() {
        System.out.println(name + ": " + told + " answers, " + wrong + " not as due");
        if (wrong != 0 || told == 0) {
            System.exit(1);
        }
    }
}
