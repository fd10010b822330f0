/** Counts the calls whose answers are not the ones that are due. */
final class Due {
    private static int asked = 0;
    private static int wrong = 0;
    private static String heading = "";

    interface Call {
        Object answer();
    }

    private Due() {
    }

    /** What the answers that follow are about; it is printed with each wrong one. */
    static void under(String newHeading) {
        heading = newHeading + ": ";
    }

    static void is(Object want, String what, Call call) {
        report(what, outcome(call), String.valueOf(want));
    }

    static void fails(Class<? extends RuntimeException> want, String what, Call call) {
        report(what, outcome(call), "throws " + want.getName());
    }

    /** The answer as a text, or "throws" and the exact class of what was thrown. */
    static String outcome(Call call) {
        try {
            return String.valueOf(call.answer());
        } catch (RuntimeException thrown) {
            return describe(thrown);
        }
    }

    static String describe(Throwable thrown) {
        String text = "throws " + thrown.getClass().getName();
        // what the machine throws for a division has the same class as what the class throws itself
        return "/ by zero".equals(thrown.getMessage()) ? text + " by the machine" : text;
    }

    static void report(String what, String got, String want) {
        asked++;
        if (!got.equals(want)) {
            wrong++;
            System.out.println(heading + what + ": " + got + ", due is " + want);
        }
    }

    static void end() {
        System.out.println(asked + " answers, " + wrong + " of them not as due");
        if (wrong != 0 || asked == 0) {
            System.exit(1);
        }
    }
}
