/** Compares answers with those that are due and counts the wrong ones of one test. */
final class Check {
    /** A call of which the answer, or the exception, is looked at. */
    interface Call {
        Object answer();
    }

    private int wrong = 0;
    private int looked = 0;

    /** The call answers what is due (an Integer, a Boolean, a Double or a Long). */
    void due(String call, Object answer, Object due) {
        looked++;
        if (!due.equals(answer)) {
            wrong++;
            System.out.println(call + " answered " + answer + ", due is " + due);
        }
    }

    /** The call throws just this exception, none of a class below it, and changes nothing of the object. */
    void refused(LanternPrimes x, String call, Class<? extends RuntimeException> due, Call made) {
        String before = outline(x);
        due(call, outcome(made), due.getName());
        due(call + ", what is told behind it", outline(x), before);
    }

    /** The answer of a call, or the name of the exception that it throws. */
    static Object outcome(Call made) {
        try {
            return made.answer();
        } catch (RuntimeException e) {
            return e.getClass().getName();
        }
    }

    private static String outline(LanternPrimes x) {
        return x.lamps() + " " + x.now() + " " + x.changesSeen() + " " + x.digest();
    }

    /** Ends the program: exit code 1 if an answer was wrong, or none was looked at. */
    void end() {
        System.out.println((looked - wrong) + " of " + looked + " answers as due");
        if (wrong != 0 || looked == 0) {
            System.exit(1);
        }
    }
}
