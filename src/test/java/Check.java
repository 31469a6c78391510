/** Counts what is as it is due; a test ends with finish(). */
final class Check {
    /** A call that may throw. */
    interface Call {
        Object run();
    }

    private static int wrong = 0;

    private Check() {
    }

    static void same(String what, Object due, Object got) {
        if (!due.equals(got)) {
            wrong++;
            System.out.println(what + ": answered " + got + ", due is " + due);
        }
    }

    /** The very class counts, and the class itself must throw it, not the machine or the library. */
    static void fails(String what, Class<? extends RuntimeException> due, Call call) {
        Object got;
        try {
            got = call.run();
        } catch (RuntimeException fault) {
            got = thrown(fault);
        }
        same(what, due, got);
    }

    /** The class of the exception, or a text if the registry does not throw it itself. */
    static Object thrown(Throwable fault) {
        StackTraceElement[] calls = fault.getStackTrace();
        boolean own = calls.length > 0 && calls[0].getClassName().matches("ButtonRegistry(\\$.*)?");
        return own ? fault.getClass() : fault + " of the machine";
    }

    /** Like fails, and nothing that can be seen of the registry may change. */
    static void refuses(String what, ButtonRegistry registry, Class<? extends RuntimeException> due, Call call) {
        String before = Look.at(registry);
        fails(what, due, call);
        same(what + " changes nothing", before, Look.at(registry));
    }

    /** The typed script is refused, and nothing changes but the error position and the failed command. */
    static void refusesScript(ButtonRegistry registry, Class<? extends RuntimeException> due) {
        String before = Look.state(registry);
        fails("runScript", due, registry::runScript);
        same("runScript changes nothing", before, Look.state(registry));
    }

    static void finish() {
        if (wrong > 0) {
            System.out.println(wrong + " answers are not as due");
            System.exit(1);
        }
    }
}
