/** Counts and prints the answers that are not the ones that are due. */
final class Checks {
    private int asked = 0;
    private int wrong = 0;
    private String about = "";
    private boolean silent = false;

    /** Names what the next answers are about: it is printed ahead of each wrong one. */
    void about(String what) {
        about = what + ": ";
    }

    void beSilent() {
        silent = true;
    }

    int asked() {
        return asked;
    }

    int wrong() {
        return wrong;
    }

    void due(String call, long got, long want) {
        asked++;
        if (got != want) {
            fail(call + " answered " + got + ", due is " + want);
        }
    }

    void dueText(String call, String got, String want) {
        asked++;
        if (!got.equals(want)) {
            fail(call + " answered " + got + ", due is " + want);
        }
    }

    void fail(String what) {
        wrong++;
        if (!silent) {
            System.out.println(about + what);
        }
    }

    /** Ends the program, with exit code 1 if an answer was wrong. */
    void end(String name) {
        System.out.println(name + ": " + asked + " answers, " + wrong + " wrong");
        if (wrong != 0 || asked == 0) {
            System.exit(1);
        }
    }
}
