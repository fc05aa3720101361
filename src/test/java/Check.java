/** Counts the answers that are not the ones that are due. */
final class Check {
    interface Call {
        long answer();
    }

    interface Test {
        void run();
    }

    private int asked = 0;
    private int wrong = 0;
    private int sentences = 0;
    private String sentence = "";

    /** A sentence of the document with a test of its own: whatever that throws is a failure of this sentence alone. */
    void sentence(String where, String words, Test test) {
        sentences++;
        sentence = where + " \"" + words + "\": ";
        try {
            test.run();
        } catch (RuntimeException e) {
            tell("the test was broken off by " + e);
        }
        sentence = "";
    }

    void same(String what, long got, long due) {
        asked++;
        if (got != due) {
            tell(what + " answered " + got + ", due is " + due);
        }
    }

    void holds(String what, boolean so) {
        asked++;
        if (!so) {
            tell(what + " does not hold");
        }
    }

    /** The exception must be of just this class: one below or above it is another answer. */
    void fails(String what, Class<?> due, Call call) {
        asked++;
        try {
            long got = call.answer();
            tell(what + " answered " + got + ", due is " + due.getSimpleName());
        } catch (RuntimeException e) {
            if (e.getClass() != due) {
                tell(what + " threw " + e.getClass().getSimpleName() + ", due is " + due.getSimpleName());
            }
        }
    }

    /** A call that throws, and changes nothing. */
    void refuses(String what, PageDisk disk, Class<?> due, Call call) {
        String before = State.of(disk);
        fails(what, due, call);
        holds(what + " changes nothing", State.of(disk).equals(before));
    }

    /** A call that answers, and changes nothing. */
    void keeps(String what, PageDisk disk, long due, Call call) {
        String before = State.of(disk);
        same(what, call.answer(), due);
        holds(what + " changes nothing", State.of(disk).equals(before));
    }

    private void tell(String text) {
        wrong++;
        System.out.println(sentence + text);
    }

    /** Every answer of space in one row, so that a test sees the whole state at once. */
    void space(String when, PageDisk disk, int... due) {
        for (int what = 0; what < due.length; what++) {
            same(when + ": space(" + what + ")", disk.space(what), due[what]);
        }
    }

    /** All bytes of a sector of the disk. */
    void sector(String what, PageDisk disk, int sector, int[] due) {
        for (int at = 0; at < 64; at++) {
            same(what + ", sector " + sector + ", byte " + at, disk.look(sector, at), due[at]);
        }
    }

    void done() {
        String what = sentences == 0 ? "" : " (" + sentences + " sentences)";
        System.out.println((wrong == 0 ? asked + " answers are as due" : wrong + " of " + asked + " answers are not as due")
            + what);
        if (wrong != 0) {
            System.exit(1);
        }
    }
}
