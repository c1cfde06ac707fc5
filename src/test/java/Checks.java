/** Counts the calls whose answer is not the one that is due, and tells each with its line. */
final class Checks {
    interface Call {
        Object answer();
    }

    private static int made = 0;
    private static int wrong = 0;

    private Checks() {
    }

    /** The answer of a call, or what it throws. */
    private static Object answerOf(Call call) {
        try {
            return call.answer();
        } catch (RuntimeException e) {
            return thrown(e);
        }
    }

    /** "throws.X", if the program throws an X by a throw of its own; the machine and the library may never throw. */
    static String thrown(Throwable e) {
        StackTraceElement[] frames = e.getStackTrace();
        boolean isOwn = frames.length > 0 && frames[0].getClassName().startsWith("Moonmirror");
        return (isOwn ? "throws." : "throws by itself ") + e.getClass().getSimpleName();
    }

    static void due(Object want, Call call) {
        compare(want, answerOf(call));
    }

    static void index(Moonmirror x, Call call) {
        refused(x, "throws.IndexOutOfBoundsException", call);
    }

    static void argument(Moonmirror x, Call call) {
        refused(x, "throws.IllegalArgumentException", call);
    }

    static void state(Moonmirror x, Call call) {
        refused(x, "throws.IllegalStateException", call);
    }

    /** A call that throws changes nothing, so all that may be asked is looked at, too. */
    private static void refused(Moonmirror x, String want, Call call) {
        long before = Looks.all(x);
        compare(want, answerOf(call));
        compare(before, Looks.all(x));
    }

    private static void compare(Object want, Object got) {
        made++;
        if (!want.equals(got)) {
            wrong++;
            System.out.println(place() + ": answered " + got + ", due is " + want);
        }
    }

    /** The lines of the test that led to a check, the innermost one first. */
    private static String place() {
        StringBuilder lines = new StringBuilder();
        for (StackTraceElement frame : new Throwable().getStackTrace()) {
            boolean isTest = frame.getClassName().endsWith("Test") && !frame.getMethodName().equals("main");
            if (isTest) {
                lines.append(lines.length() == 0 ? "" : " < ").append(frame.getFileName()).append(':').append(frame.getLineNumber());
            }
        }
        return lines.toString();
    }

    static void end() {
        System.out.println(made + " checks, " + wrong + " wrong");
        if (wrong != 0) {
            System.exit(1);
        }
    }
}
