/** Counts answers that are not the ones due; a test ends with exit code 1 if there was one. */
final class Check {
    private static int made;
    private static int wrong;

    private Check() {
    }

    static void same(String what, long got, long due) {
        made++;
        if (got != due) {
            tell(what + " answered " + got + ", due is " + due);
        }
    }

    static void same(String what, double got, double due) {
        made++;
        if (got != due) {
            tell(what + " answered " + got + ", due is " + due);
        }
    }

    static void same(String what, String got, String due) {
        made++;
        if (!got.equals(due)) {
            tell(what + " answered\n" + got + "\ndue is\n" + due);
        }
    }

    static void yes(String what, boolean got) {
        made++;
        if (!got) {
            tell(what + " does not hold");
        }
    }

    static void no(String what, boolean got) {
        yes("not: " + what, !got);
    }

    /** The call has to throw this very exception and to leave the works as it was, in all that it holds or tells. */
    static void refused(Ironpour works, String what, Class<? extends RuntimeException> due, Runnable call) {
        String before = Snapshot.of(works);
        String inside = Inside.of(works);
        made++;
        try {
            call.run();
            tell(what + " throws nothing, due is " + due.getSimpleName());
        } catch (RuntimeException thrown) {
            if (thrown.getClass() != due) {
                tell(what + " throws " + thrown + ", due is " + due.getSimpleName());
            } else if (!isThrownByWorks(thrown)) {
                tell(what + " lets the library throw " + thrown);
            }
        }
        same("what the works holds behind " + what, Inside.of(works), inside);
        same("what it tells behind " + what, Snapshot.of(works), before);
    }

    /** The class has to throw by itself, ahead of the library or the machine. */
    static boolean isThrownByWorks(Throwable thrown) {
        StackTraceElement[] trace = thrown.getStackTrace();
        return trace.length > 0 && trace[0].getClassName().startsWith("Ironpour");
    }

    static void end(String test) {
        System.out.println(test + ": " + made + " checks, " + wrong + " wrong");
        if (wrong != 0) {
            System.exit(1);
        }
    }

    private static void tell(String text) {
        wrong++;
        System.out.println(text);
    }
}
