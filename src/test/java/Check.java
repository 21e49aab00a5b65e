/** What the tests share: it compares answers, counts the wrong ones, and ends the test by them. */
final class Check {
    private static int wrong = 0;
    private static int seen = 0;

    private Check() {
    }

    /** A call that may throw. */
    interface Call {
        void run();
    }

    static void same(String what, long got, long due) {
        seen++;
        if (got != due) {
            tell(what + " answered " + got + ", due is " + due);
        }
    }

    static void same(String what, boolean got, boolean due) {
        seen++;
        if (got != due) {
            tell(what + " answered " + got + ", due is " + due);
        }
    }

    static void letter(String what, char got, char due) {
        seen++;
        if (got != due) {
            tell(what + " answered '" + got + "', due is '" + due + "'");
        }
    }

    static void text(String what, String got, String due) {
        seen++;
        if (!got.equals(due)) {
            tell(what + " gave \"" + got + "\", due is \"" + due + "\"");
        }
    }

    static void fails(String what, Class<? extends RuntimeException> due, Call call) {
        seen++;
        try {
            call.run();
        } catch (RuntimeException e) {
            if (e.getClass() != due) {
                tell(what + " threw " + e.getClass().getSimpleName() + ", due is " + due.getSimpleName());
            }
            return;
        }
        tell(what + " threw nothing, due is " + due.getSimpleName());
    }

    static void tell(String text) {
        wrong++;
        System.out.println(text);
    }

    static void end() {
        System.out.println(seen + " answers looked at, " + wrong + " wrong");
        if (wrong != 0 || seen == 0) {
            System.exit(1);
        }
    }
}
