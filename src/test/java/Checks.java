/** Counts what holds, and prints what does not. */
final class Checks {
    private String about = "";
    private int held;
    private int wrong;

    /** What the next checks are about; it is printed ahead of what does not hold. */
    void about(String what) {
        about = what.isEmpty() ? "" : what + " | ";
    }

    void due(String call, long got, long want) {
        note(got == want, call, String.valueOf(got), String.valueOf(want));
    }

    void dueDouble(String call, double got, double want) {
        note(got == want, call, String.valueOf(got), String.valueOf(want));
    }

    void holds(String what, boolean held) {
        note(held, what, "false", "true");
    }

    int count() {
        return held + wrong;
    }

    private void note(boolean right, String call, String got, String want) {
        if (right) {
            held++;
            return;
        }
        wrong++;
        if (wrong <= 40) {
            System.out.println(about + call + " answered " + got + ", due is " + want);
        }
    }

    void end(String name) {
        System.out.println(name + ": " + held + " held, " + wrong + " wrong");
        if (wrong != 0 || held == 0) {
            System.exit(1);
        }
    }
}
