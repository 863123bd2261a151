import java.util.function.Function;
import java.util.function.Supplier;

/** Compares answers with those that are due and counts the wrong ones of one test. */
final class Check {
    /** A call of which the answer, or the exception, is looked at. */
    interface Call {
        Object answer();
    }

    private int wrong = 0;
    private int looked = 0;

    /** The call answers what is due (an Integer, a Boolean, a Double or a Long). */
    void due(String call, Object answer, Object due) {
        looked++;
        if (!due.equals(answer)) {
            wrong++;
            System.out.println(call + " answered " + answer + ", due is " + due);
        }
    }

    /**
     * The call throws just this exception, none of a class below it, and behind it the object
     * answers all as one on which the call was not made.
     */
    void refused(Supplier<LanternPrimes> scene, String call, Class<? extends RuntimeException> due,
            Function<LanternPrimes, Object> made) {
        LanternPrimes x = scene.get();
        due(call, outcome(() -> made.apply(x)), due.getName());
        due(call + ", what is told behind it", Answers.of(x), Answers.of(scene.get()));
    }

    /** The answer of a call, or the name of the exception that it throws. */
    static Object outcome(Call made) {
        try {
            return made.answer();
        } catch (RuntimeException e) {
            return e.getClass().getName();
        }
    }

    /** Ends the program: exit code 1 if an answer was wrong, or none was looked at. */
    void end() {
        System.out.println((looked - wrong) + " of " + looked + " answers as due");
        if (wrong != 0 || looked == 0) {
            System.exit(1);
        }
    }
}
