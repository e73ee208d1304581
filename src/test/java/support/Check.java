/** Counts what a test finds and tells what is wrong. */
final class Check {
    private int right = 0;
    private int wrong = 0;
    private String about = "";

    void about(String promise) {
        about = promise;
    }

    void same(String what, long got, long due) {
        tell(got == due, what, got, due);
    }

    void same(String what, double got, double due) {
        tell(got == due, what, got, due);
    }

    void same(String what, String got, String due) {
        tell(got.equals(due), what, got, due);
    }

    void yes(String what, boolean got) {
        tell(got, what, got, true);
    }

    private void tell(boolean good, String what, Object got, Object due) {
        if (good) {
            right++;
        } else {
            wrong++;
            if (wrong <= 50) {
                System.out.println(about + ": " + what + " answered " + got + ", due is " + due);
            }
        }
    }

    boolean failed() {
        return wrong > 0;
    }

    /** Tells the sums and ends the program with 1 if anything was wrong. */
    void end() {
        System.out.println(right + " checks as due, " + wrong + " not as due");
        if (wrong > 0 || right == 0) {
            System.exit(1);
        }
    }
}
