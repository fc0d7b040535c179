/** Counts the checks of a test program and tells those that went wrong. */
final class Checks {
    private String part = "";
    private int done;
    private int wrong;

    void part(String name) {
        part = name;
    }

    void due(String call, long got, long want) {
        done++;
        if (got == want) return;
        wrong++;
        System.out.println(part + ": " + call + " answered " + got + ", due is " + want);
    }

    void same(String what, String got, String want) {
        done++;
        if (got.equals(want)) return;
        wrong++;
        System.out.println(part + ": " + what + ":\n  got " + got + "\n  due " + want);
    }

    void holds(String what, boolean is) {
        due(what, is ? 1 : 0, 1);
    }

    /** Ends the program, with exit code 1 if a check went wrong. */
    void finish() {
        System.out.println(done + " checks, " + wrong + " wrong");
        if (wrong != 0 || done == 0) System.exit(1);
    }
}
