/** Counts and prints the answers that are not the ones due. */
final class Check {
    interface Call {
        Object answer();
    }

    private static final int PRINTED = 100;
    private static int wrong = 0;

    private Check() {
    }

    static void same(String what, Object got, Object due) {
        if (!due.equals(got)) {
            wrong++;
            if (wrong <= PRINTED) {
                System.out.println(what + " answered " + got + ", due is " + due);
            }
        }
    }

    static void fails(String what, Class<? extends RuntimeException> due, Call call) {
        same(what, outcome(call), due.getSimpleName());
    }

    /** The answer as a text, or the name of the exception, which is never that of a subclass. */
    static String outcome(Call call) {
        try {
            return String.valueOf(call.answer());
        } catch (RuntimeException e) {
            return e.getClass().getSimpleName();
        }
    }

    static void end() {
        if (wrong != 0) {
            System.out.println(wrong + " answers are not as due");
            System.exit(1);
        }
        System.out.println("all answers are as due");
    }
}
