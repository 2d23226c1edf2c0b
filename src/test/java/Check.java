/** Counts the answers of a test that are not as due, and ends its run with the exit code for that. */
final class Check {
    static final Class<? extends RuntimeException> INDEX = IndexOutOfBoundsException.class;
    static final Class<? extends RuntimeException> ARGUMENT = IllegalArgumentException.class;
    static final Class<? extends RuntimeException> STATE = IllegalStateException.class;

    private int right = 0;
    private int wrong = 0;

    void same(String what, long got, long due) {
        judge(got == due, what, "answered " + got + ", due is " + due);
    }

    void same(String what, boolean got, boolean due) {
        judge(got == due, what, "answered " + got + ", due is " + due);
    }

    void same(String what, String got, String due) {
        judge(got.equals(due), what, "answered\n  " + got + "\ndue is\n  " + due);
    }

    /** The call has to throw just this class, and all that the book answers has to stay as it was. */
    void refused(GlacierBook book, String what, Class<? extends RuntimeException> due, Runnable call) {
        String before = Seen.of(book);
        Class<?> got = thrownBy(call);
        judge(got == due, what, "threw " + got + ", due is " + due);
        same(what + " changes nothing", Seen.of(book), before);
    }

    /** The class of what the book itself throws; an Error in its place if the machine or a library threw it. */
    static Class<?> thrownBy(Runnable call) {
        try {
            call.run();
            return null;
        } catch (RuntimeException e) {
            StackTraceElement[] trace = e.getStackTrace();
            boolean isOfBook = trace.length > 0 && trace[0].getClassName().startsWith("GlacierBook");
            return isOfBook ? e.getClass() : Error.class;
        }
    }

    void end() {
        System.out.println(right + " answers as due, " + wrong + " not");
        if (wrong != 0 || right == 0) {
            System.exit(1);
        }
    }

    private void judge(boolean isRight, String what, String told) {
        if (isRight) {
            right++;
        } else {
            wrong++;
            System.out.println(what + ": " + told);
        }
    }
}
