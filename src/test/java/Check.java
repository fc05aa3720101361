/** Counts the answers that are not the ones that are due. */
final class Check {
    interface Call {
        long answer();
    }

    private int asked = 0;
    private int wrong = 0;

    void same(String what, long got, long due) {
        asked++;
        if (got != due) {
            tell(what + " answered " + got + ", due is " + due);
        }
    }

    void holds(String what, boolean so) {
        asked++;
        if (!so) {
            tell(what + " does not hold");
        }
    }

    /** The exception must be of just this class: one below or above it is another answer. */
    void fails(String what, Class<?> due, Call call) {
        asked++;
        try {
            long got = call.answer();
            tell(what + " answered " + got + ", due is " + due.getSimpleName());
        } catch (RuntimeException e) {
            if (e.getClass() != due) {
                tell(what + " threw " + e.getClass().getSimpleName() + ", due is " + due.getSimpleName());
            }
        }
    }

    private void tell(String text) {
        wrong++;
        System.out.println(text);
    }

    /** Every answer of space in one row, so that a test sees the whole state at once. */
    void space(String when, PageDisk disk, int... due) {
        for (int what = 0; what < due.length; what++) {
            same(when + ": space(" + what + ")", disk.space(what), due[what]);
        }
    }

    void done() {
        System.out.println(wrong == 0 ? asked + " answers are as due" : wrong + " of " + asked + " answers are not as due");
        if (wrong != 0) {
            System.exit(1);
        }
    }
}
