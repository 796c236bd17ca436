/** Counts what is told wrong and ends the test with exit code 1 if anything was. */
final class Due {
    private final String name;
    private int told = 0;
    private int wrong = 0;

    Due(String name) {
        this.name = name;
    }

    void is(String what, long got, long want) {
        told++;
        if (got != want) {
            wrong++;
            System.out.println(name + ": " + what + " answered " + got + ", due is " + want);
        }
    }

    void holds(String what, boolean truth) {
        is(what, truth ? 1 : 0, 1);
    }

    void end() {
        System.out.println(name + ": " + told + " answers, " + wrong + " not as due");
        if (wrong != 0 || told == 0) {
            System.exit(1);
        }
    }
}
