/** Counts the checks of one test program, prints those that fail, and ends it with exit code 1 if one did. */
final class Check {
    interface Call {
        Object answer();
    }

    private static int done = 0;
    private static int wrong = 0;

    private Check() {
    }

    static void due(String what, Object got, Object want) {
        done++;
        if (!want.equals(got)) {
            wrong++;
            System.out.println(what + " answered " + got + ", due is " + want);
        }
    }

    /** The call throws that very exception, not one below it such as the machine's own, and changes nothing. */
    static void raises(String what, Leastbag x, Class<? extends RuntimeException> wanted, Call call) {
        long before = x.digest();
        due(what, outcome(call), "throws." + wanted.getSimpleName());
        due(what + " changes nothing", x.digest(), before);
    }

    static Object outcome(Call call) {
        try {
            return call.answer();
        } catch (RuntimeException e) {
            return "throws." + e.getClass().getSimpleName();
        }
    }

    static void end(String name) {
        System.out.println(name + ": " + done + " checks, " + wrong + " wrong");
        if (wrong != 0 || done == 0) {
            System.exit(1);
        }
    }
}
