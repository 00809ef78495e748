/** Counts the answers that are not as due, and prints them. */
final class Check {
    private int asked = 0;
    private int wrong = 0;

    void due(String what, long got, long want) {
        asked++;
        if (got == want) return;
        wrong++;
        // A broken class would flood the page.
        if (wrong <= 40) System.out.println(what + " answered " + got + ", due is " + want);
    }

    void holds(String what, boolean right) {
        due(what, right ? 1 : 0, 1);
    }

    /** A check that asked nothing says nothing. */
    boolean isRight() {
        return wrong == 0 && asked != 0;
    }

    void end(String name) {
        System.out.println(name + ": " + asked + " answers, " + wrong + " not as due");
        if (!isRight()) System.exit(1);
    }
}
