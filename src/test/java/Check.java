/** Counts and prints what is not as it is due. */
final class Check {
    interface Call {
        Object run();
    }

    private static int wrong = 0;
    private static int checked = 0;

    private Check() {
    }

    static void gives(String what, Call call, Object due) {
        checked++;
        Object got = answerOf(call);
        if (!got.equals(due)) {
            wrong++;
            System.out.println(what + " answered " + got + ", due is " + due);
        }
    }

    static void fails(String what, Call call, Class<? extends RuntimeException> due) {
        gives(what, call, "throws." + due.getSimpleName());
    }

    static void holds(String what, boolean is) {
        gives(what, () -> is, true);
    }

    /** What a call answers, or which exception it throws; just that class, none below it. */
    static Object answerOf(Call call) {
        try {
            return call.run();
        } catch (RuntimeException e) {
            return "throws." + e.getClass().getSimpleName();
        }
    }

    static void end(String name) {
        System.out.println(name + ": " + checked + " checks, " + wrong + " not as due");
        if (wrong != 0) {
            System.exit(1);
        }
    }
}
