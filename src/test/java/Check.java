/** Counts and prints the answers that are not the ones that are due; each test ends with done(). */
final class Check {
    private int wrong = 0;

    void is(String call, long got, long due) {
        if (got != due) {
            tell(call, Long.toString(got), Long.toString(due));
        }
    }

    void is(String call, boolean got, boolean due) {
        is(call, got ? 1 : 0, due ? 1 : 0);
    }

    void is(String call, String got, String due) {
        if (!got.equals(due)) {
            tell(call, got, due);
        }
    }

    private void tell(String call, String got, String due) {
        wrong++;
        System.out.println(call + " answered " + got + ", due is " + due);
    }

    void done() {
        if (wrong != 0) {
            System.out.println(wrong + " answers are not as due");
            System.exit(1);
        }
    }
}
