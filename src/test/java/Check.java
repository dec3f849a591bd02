/** Compares the answers of calls with those that are due, and counts the wrong ones. */
final class Check {

    /** A call whose answer, or the class of the exception that it throws, is looked at. */
    interface Call {
        Object answer();
    }

    /** The first ones tell enough. */
    private static final int MOST_PRINTED = 40;

    private final String test;
    private String heading = "";
    private int calls;
    private int wrong;

    Check(String test) {
        this.test = test;
    }

    /** What comes next is told under this heading if it is wrong. */
    void under(String itsHeading) {
        heading = itsHeading + "\n    ";
    }

    /** The due answer is a value, or the class of the exception that the call must throw. */
    void due(String name, Object due, Call call) {
        Object got = answerOf(call);
        calls++;
        if (!got.equals(due)) {
            wrong++;
            print(test + ": " + heading + name + " answered " + got + ", due is " + due);
        }
    }

    private void print(String line) {
        if (wrong <= MOST_PRINTED) {
            System.out.println(line);
        }
    }

    boolean hasWrong() {
        return wrong > 0;
    }

    void end() {
        System.out.println(test + ": " + calls + " answers, " + wrong + " wrong");
        if (wrong > 0) {
            System.exit(1);
        }
    }

    static Object answerOf(Call call) {
        try {
            return call.answer();
        } catch (RuntimeException e) {
            return e.getClass();
        }
    }
}
