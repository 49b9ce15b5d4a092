/** Counts the answers of a test that are not as due, and prints them. */
final class Checks {
    interface Call {
        Object answer();
    }

    private final String test;
    private int wrong = 0;
    private int all = 0;

    Checks(String test) {
        this.test = test;
    }

    /** Numbers of all kinds, letters and booleans are compared as texts, so that 4 and 4L are alike. */
    void due(String told, Object got, Object want) {
        all++;
        if (!String.valueOf(got).equals(String.valueOf(want))) {
            wrong++;
            System.out.println(test + ": " + told + " answered " + got + ", due is " + want);
        }
    }

    /** The class of the exception must be this very one, none below it. */
    void refused(String told, Class<? extends RuntimeException> want, Call call) {
        due(told, outcome(call), "throws " + want.getSimpleName());
    }

    static String outcome(Call call) {
        try {
            return String.valueOf(call.answer());
        } catch (RuntimeException e) {
            return "throws " + e.getClass().getSimpleName();
        }
    }

    void end() {
        System.out.println(test + ": " + all + " answers, " + wrong + " not as due");
        if (wrong > 0) {
            System.exit(1);
        }
    }
}
