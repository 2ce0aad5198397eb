/** Compares answers with those that are due, prints the wrong ones, and ends a test. */
final class Due {
    /** One call of the class under test. */
    interface Call {
        long answer();
    }

    private int asked = 0;
    private int wrong = 0;

    /** The call answers what is due. */
    void is(String told, long due, Call call) {
        String got;
        try {
            got = Long.toString(call.answer());
        } catch (RuntimeException e) {
            got = "throws " + e.getClass().getSimpleName();
        }
        compare(told, Long.toString(due), got);
    }

    void throwsIndex(String told, Call call) {
        isThrown(told, IndexOutOfBoundsException.class, call);
    }

    void throwsArgument(String told, Call call) {
        isThrown(told, IllegalArgumentException.class, call);
    }

    void throwsState(String told, Call call) {
        isThrown(told, IllegalStateException.class, call);
    }

    // The very class: an ArrayIndexOutOfBoundsException is the machine's, and never due.
    void isThrown(String told, Class<?> due, Call call) {
        String got;
        try {
            got = Long.toString(call.answer());
        } catch (RuntimeException e) {
            got = e.getClass().getName();
        }
        compare(told, due.getName(), got);
    }

    void compare(String told, String due, String got) {
        asked++;
        if (!due.equals(got)) {
            wrong++;
            System.out.println(told + ": got " + got + ", due is " + due);
        }
    }

    int asked() {
        return asked;
    }

    /** Ends the test's program; its exit code tells whether an answer was wrong. */
    void end(String test) {
        System.out.println(test + ": " + asked + " answers asked, " + wrong + " wrong");
        if (wrong != 0 || asked == 0) {
            System.exit(1);
        }
    }
}
