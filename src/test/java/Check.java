/** Counts what is not as it should be, and tells it. */
final class Check {
    /** A call of the face that answers a number. */
    interface Call {
        int answer();
    }

    private static int checks = 0;
    private static int wrong = 0;
    private static String about = "";

    private Check() {
    }

    /** What the checks that follow are about. */
    static void about(String subject) {
        about = subject;
    }

    static int count() {
        return checks;
    }

    static void that(String what, boolean holds) {
        checks++;
        if (!holds) {
            wrong++;
            System.out.println("not as due: " + about + what);
        }
    }

    static void is(String what, int want, int got) {
        that(what + " answered " + got + ", due is " + want, got == want);
    }

    static void is(String what, int want, Call call) {
        String told = outcome(call);
        that(what + " gave " + told + ", due is " + want, told.equals("" + want));
    }

    static void answers(String what, Call call) {
        String told = outcome(call);
        that(what + " gave " + told + ", due is an answer", told.matches("-?\\d+"));
    }

    static void is(String what, String want, String got) {
        that(what + " gave " + got + ", due is " + want, got.equals(want));
    }

    /** The very class is asked for: a machine's exception is often a subclass of the due one. */
    static void refuses(String what, Class<? extends RuntimeException> due, Call call) {
        String told = outcome(call);
        that(what + " gave " + told + ", due is " + due.getName(), told.equals(due.getName()));
    }

    /** The answer as a text, or the name of the exception. */
    static String outcome(Call call) {
        try {
            return "" + call.answer();
        } catch (RuntimeException thrown) {
            return thrown.getClass().getName() + (isWritten(thrown) ? "" : " of the library");
        }
    }

    /** A list throws IndexOutOfBoundsException, too, but then its own frame is the topmost one. */
    private static boolean isWritten(RuntimeException thrown) {
        StackTraceElement[] trace = thrown.getStackTrace();
        if (trace.length == 0) {
            return false;
        }
        String thrower = trace[0].getClassName();
        return thrower.startsWith("InkHall") || thrower.equals("Model");
    }

    static void end(String name) {
        System.out.println(name + ": " + (checks - wrong) + " of " + checks + " checks hold");
        if (wrong != 0 || checks == 0) {
            System.exit(1);
        }
    }
}
