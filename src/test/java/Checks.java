/** What the tests share: answers are compared, wrong ones printed and counted. */
final class Checks {
    interface Call {
        long answer();
    }

    interface Act {
        void act();
    }

    private static int wrong = 0;
    private static String place = "";

    private Checks() {
    }

    /** Wrong answers from here on are told as those of this place. */
    static void at(String where) {
        place = where + ": ";
    }

    static void same(String call, long got, long due) {
        if (got != due) {
            report(call, Long.toString(got), Long.toString(due));
        }
    }

    static void same(String call, String got, String due) {
        if (!got.equals(due)) {
            report(call, got, due);
        }
    }

    /** The answer as a text, or the exception's name: the exact class, not one below it. */
    static String outcome(Call call) {
        try {
            return Long.toString(call.answer());
        } catch (RuntimeException e) {
            return "throws." + e.getClass().getName();
        }
    }

    static void noIndex(String call, Call what) {
        same(call, outcome(what), "throws.java.lang.IndexOutOfBoundsException");
    }

    static void noArgument(String call, Call what) {
        same(call, outcome(what), "throws.java.lang.IllegalArgumentException");
    }

    /** For methods that answer nothing. */
    static Call of(Act act) {
        return () -> {
            act.act();
            return 0;
        };
    }

    static void end() {
        if (wrong != 0) {
            System.out.println(wrong + " answers are not as due");
            System.exit(1);
        }
    }

    private static void report(String call, String got, String due) {
        wrong++;
        System.out.println(place + call + " answered " + got + ", due is " + due);
    }
}
