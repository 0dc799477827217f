/** Counts the answers that are not as due, and tells each. */
final class Due {
    private final String name;
    private int calls = 0;
    private int wrong = 0;

    Due(String name) {
        this.name = name;
    }

    void due(String call, long got, long want) {
        calls++;
        if (got == want) return;
        wrong++;
        if (wrong <= 50) System.out.println(name + ": " + call + " answered " + got + ", due is " + want);
    }

    /** To be called last: ends the program, with 1 if any answer was wrong. */
    void end() {
        System.out.println(name + ": " + calls + " answers, " + wrong + " not as due");
        System.exit(wrong == 0 ? 0 : 1);
    }
}
